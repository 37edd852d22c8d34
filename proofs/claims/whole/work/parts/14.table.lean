/-! the table's picture, its plain reads -/
/-- columns: 0 guests, 1 dishes, 2 soup, 3 border, 4 readings; 5 kinds, 6 mouths, 7 arms, 8 seats, 9 worths, 10 who was read, 11 minutes -/
def TV (S : Nat → Nat → Int32) (T : Nat) (a : Nat → Nat → Nat) : Prop := S T 8 = nI (a 0 0) ∧ S T 9 = nI (a 1 0) ∧ S T 10 = nI (a 2 0) ∧ S T 11 = nI (a 3 0) ∧ S T 12 = nI (a 4 0) ∧ (∀ i, i < a 0 0 → S (T + 1) i = nI (a 5 i) ∧ S (T + 2) i = nI (a 6 i) ∧ S (T + 3) i = nI (a 7 i)) ∧ (∀ i, i < a 1 0 → S (T + 5) i = nI (a 8 i) ∧ S (T + 6) i = nI (a 9 i)) ∧ ∀ i, i < a 4 0 → S (T + 7) i = nI (a 10 i) ∧ S (T + 8) i = nI (a 11 i)
def WL (a : Nat → Nat → Nat) : Prop := 3 ≤ a 0 0 ∧ a 0 0 ≤ 8 ∧ 1 ≤ a 1 0 ∧ a 1 0 ≤ 6 ∧ a 2 0 ≤ 3 ∧ a 3 0 < 64 ∧ a 3 0 / 8 < a 0 0 ∧ a 3 0 % 8 < a 0 0 ∧ a 3 0 / 8 ≠ a 3 0 % 8 ∧ a 4 0 ≤ 8 ∧ (∀ i, i < a 0 0 → a 5 i ≤ 2 ∧ a 6 i ≤ 9 ∧ a 7 i ≤ 3) ∧ (∀ i, i < a 1 0 → a 8 i < a 0 0 ∧ a 9 i ≤ 9) ∧ ∀ i, i < a 4 0 → a 10 i < a 0 0 ∧ a 11 i ≤ 19
def landF (a : Nat → Nat → Nat) (c b : Nat) : Nat → Nat := fun e => if who (a 0 0) (a 8 e) (b / 8) (b % 8) = nI c then a 9 e else 0
def land (a : Nat → Nat → Nat) (c b : Nat) : Nat := sm (landF a c b) (a 1 0)
theorem sm_le {f : Nat → Nat} {c : Nat} : ∀ n, (∀ i, i < n → f i ≤ c) → sm f n ≤ n * c
  | 0, _ => Nat.zero_le _
  | n + 1, h => by
    have := sm_le n (fun i hi => h i (by omega))
    have := h n (by omega)
    rw [Nat.succ_mul]; show sm f n + f n ≤ _; omega
theorem landF_le {a : Nat → Nat → Nat} {c b i : Nat} (hW : WL a) (hi : i < a 1 0) : landF a c b i ≤ 9 := by
  unfold landF; split
  · exact (hW.2.2.2.2.2.2.2.2.2.2.2.1 i hi).2
  · omega
theorem land_le {a : Nat → Nat → Nat} {c b : Nat} (hW : WL a) : land a c b ≤ 54 := by
  have h := sm_le (f := landF a c b) (c := 9) (a 1 0) (fun i hi => landF_le hW hi)
  have h6 : a 1 0 ≤ 6 := hW.2.2.2.1
  unfold land; omega
theorem smF_le {a : Nat → Nat → Nat} {c b i : Nat} (hW : WL a) (hi : i ≤ a 1 0) : sm (landF a c b) i ≤ 54 := by
  have h := sm_le (f := landF a c b) (c := 9) i (fun j hj => landF_le hW (by omega))
  have h6 : a 1 0 ≤ 6 := hW.2.2.2.1
  omega
theorem sm_t {a : Nat → Nat → Nat} {c b i : Nat} (h : who (a 0 0) (a 8 i) (b / 8) (b % 8) = nI c) : sm (landF a c b) (i + 1) = sm (landF a c b) i + a 9 i := by
  show sm (landF a c b) i + landF a c b i = _
  rw [show landF a c b i = a 9 i from if_pos h]
theorem sm_f {a : Nat → Nat → Nat} {c b i : Nat} (h : ¬ who (a 0 0) (a 8 i) (b / 8) (b % 8) = nI c) : sm (landF a c b) (i + 1) = sm (landF a c b) i := by
  show sm (landF a c b) i + landF a c b i = _
  rw [show landF a c b i = 0 from if_neg h]; rfl
def miN (a : Nat → Nat → Nat) (k : Nat) : Nat := minN (a 5 k) (a 6 k) (a 2 0)
theorem minN_le {k m so : Nat} : minN k m so ≤ m + so := by unfold minN; split <;> (try split) <;> omega
set_option maxRecDepth 20000 in
theorem c_X4_ownerOfDish {S : Nat → Nat → Int32} {L : Nat → Nat → Int64} {R : Nat × Nat × Nat} {d : Nat} {T : Nat} (hT : T = 19 ∨ T = 28) {a : Nat → Nat → Nat} (hV : TV S T a) (hW : WL a) {b : Nat} (hb : b < 64) (hs : b / 8 < a 0 0) (hp : b % 8 < a 0 0) {e : Nat} (he : e < a 1 0) : TT mX4_ownerOfDish (d + 2) 0 [some (.ref T), some (.int (nI e)), some (.int (nI b))] [] (S, L, R) (rt (some (.int (who (a 0 0) (a 8 e) (b / 8) (b % 8)))) (S, L, R)) := by
  obtain ⟨hg, hdn, hso, hbd, hrn, hgu, hdi, hre⟩ := id hV
  obtain ⟨w3, w8, wd1, wd6, wso, wb, wbs, wbp, wne, wrn, wgu, wdi, wre⟩ := id hW
  have q1 := wdi e he
  refine T_ald0 dX4_ownerOfDish_0 ?_
  refine T_ald0 dX4_ownerOfDish_1 ?_
  refine T_getR (q := T + 5) dX4_ownerOfDish_2 lf_X4_24 (kT hT) rfl (rT5 hT) ?_
  refine T_ild1 dX4_ownerOfDish_5 ?_
  refine T_ialdN dX4_ownerOfDish_6 (kT5 hT) (by rw [lT5 hT]; omega) (hdi _ (by omega)).1 ?_
  refine T_ild2 dX4_ownerOfDish_7 ?_
  refine T_invV2i (M' := mX4_ownerOf) dX4_ownerOfDish_8 ml_X4_109 imX4_ownerOf (kT hT) (Nat.le_of_ble_eq_true rfl) rfl (Nat.le_of_ble_eq_true rfl) rfl (Nat.le_of_ble_eq_true rfl) (c_X4_ownerOf hT hg w8 (by omega) hb hs hp) ?_
  refine T_iret dX4_ownerOfDish_11 rfl ?_
  exact rt_i
set_option maxRecDepth 20000 in
theorem c_X4_landOf {S : Nat → Nat → Int32} {L : Nat → Nat → Int64} {R : Nat × Nat × Nat} {d : Nat} {T : Nat} (hT : T = 19 ∨ T = 28) {a : Nat → Nat → Nat} (hV : TV S T a) (hW : WL a) {b : Nat} (hb : b < 64) (hs : b / 8 < a 0 0) (hp : b % 8 < a 0 0) {c : Nat} : TT mX4_landOf (d + 2) 0 [some (.ref T), some (.int (nI c)), some (.int (nI b)), none, none] [] (S, L, R) (rt (some (.int (nI (land a c b)))) (S, L, R)) := by
  obtain ⟨hg, hdn, hso, hbd, hrn, hgu, hdi, hre⟩ := id hV
  obtain ⟨w3, w8, wd1, wd6, wso, wb, wbs, wbp, wne, wrn, wgu, wdi, wre⟩ := id hW
  refine T_iconst (v := nI 0) dX4_landOf_0 (by decide) ?_
  refine T_ist3 dX4_landOf_1 (by decide) rfl ?_
  refine T_iconst (v := nI 0) dX4_landOf_2 (by decide) ?_
  refine T_ist4 dX4_landOf_3 (by decide) rfl ?_
  skip
  refine up_ind (P := fun i => TT mX4_landOf (d + 2) 5 [some (.ref T), some (.int (nI c)), some (.int (nI b)), some (.int (nI (sm (landF a c b) i))), some (.int (nI i))] [] (S, L, R) (rt (some (.int (nI (land a c b)))) (S, L, R))) (a 1 0) ?_ ?_
  · refine T_ild4 dX4_landOf_5 ?_
    refine T_ald0 dX4_landOf_7 ?_
    refine T_getN dX4_landOf_8 lf_X4_97 (kT hT) rfl hdn ?_
    refine T_cgeN (tgt := 46) dX4_landOf_11 (by decide) (by omega) (by omega) (fun h11 => ?_) (fun h11 => by exfalso; omega)
    refine T_ild3 dX4_landOf_46 ?_
    refine T_iret dX4_landOf_47 rfl ?_
    exact rt_i
  · intro i hi ih
    have q1 := wdi i hi
    have q0 := smF_le (a := a) (c := c) (b := b) hW (i := i) (by omega)
    refine T_ild4 dX4_landOf_5 ?_
    refine T_ald0 dX4_landOf_7 ?_
    refine T_getN dX4_landOf_8 lf_X4_97 (kT hT) rfl hdn ?_
    refine T_cgeN (tgt := 46) dX4_landOf_11 (by decide) (by omega) (by omega) (fun h11 => by exfalso; omega) (fun h11 => ?_)
    refine T_ald0 dX4_landOf_14 ?_
    refine T_ald0 dX4_landOf_15 ?_
    refine T_getR (q := T + 5) dX4_landOf_16 lf_X4_24 (kT hT) rfl (rT5 hT) ?_
    refine T_ild4 dX4_landOf_19 ?_
    refine T_ialdN dX4_landOf_21 (kT5 hT) (by rw [lT5 hT]; omega) (hdi _ (by omega)).1 ?_
    refine T_ild2 dX4_landOf_22 ?_
    refine T_invV2i (M' := mX4_ownerOf) dX4_landOf_23 ml_X4_109 imX4_ownerOf (kT hT) (Nat.le_of_ble_eq_true rfl) rfl (Nat.le_of_ble_eq_true rfl) rfl (Nat.le_of_ble_eq_true rfl) (c_X4_ownerOf hT hg w8 (by omega) hb hs hp) ?_
    refine T_ild1 dX4_landOf_26 ?_
    refine T_cne (tgt := 40) dX4_landOf_27 (by decide) (fun h27 => ?_) (fun h27 => ?_)
    · refine T_inc4N dX4_landOf_40 (by decide) rfl ?_
      refine T_goto (tgt := 5) dX4_landOf_43 (by decide) ?_
      first | (rw [sm_t (by assumption)] at ih; exact ih) | (rw [sm_f (by assumption)] at ih; exact ih)
    · refine T_ild3 dX4_landOf_30 ?_
      refine T_ald0 dX4_landOf_31 ?_
      refine T_getR (q := T + 6) dX4_landOf_32 lf_X4_27 (kT hT) rfl (rT6 hT) ?_
      refine T_ild4 dX4_landOf_35 ?_
      refine T_ialdN dX4_landOf_37 (kT6 hT) (by rw [lT6 hT]; omega) (hdi _ (by omega)).2 ?_
      refine T_iaddN dX4_landOf_38 ?_
      refine T_ist3 dX4_landOf_39 (by decide) rfl ?_
      refine T_inc4N dX4_landOf_40 (by decide) rfl ?_
      refine T_goto (tgt := 5) dX4_landOf_43 (by decide) ?_
      first | (rw [sm_t (by assumption)] at ih; exact ih) | (rw [sm_f (by assumption)] at ih; exact ih)
set_option maxRecDepth 20000 in
theorem c_X4_minutesAs {S : Nat → Nat → Int32} {L : Nat → Nat → Int64} {R : Nat × Nat × Nat} {d : Nat} {k m so : Nat} (hk : k ≤ 2) (hm : m ≤ 9) (hso : so ≤ 3) : TT mX4_minutesAs (d + 1) 0 [some (.int (nI k)), some (.int (nI m)), some (.int (nI so)), none] [] (S, L, R) (rt (some (.int (nI (minN k m so)))) (S, L, R)) := by
  refine T_ild1 dX4_minutesAs_0 ?_
  refine T_ild2 dX4_minutesAs_1 ?_
  refine T_iaddN dX4_minutesAs_2 ?_
  refine T_ist3 dX4_minutesAs_3 (by decide) rfl ?_
  refine T_ild0 dX4_minutesAs_4 ?_
  
  refine T_lk [(1, 36), (2, 32)] 44 dX4_minutesAs_5 (by decide) (by decide) (by decide) (by decide) (fun j hj e5 => ?_) (fun e5 => ?_)
  · match j, hj, e5 with
    | 0, _, e5 =>
      refine T_ild3 dX4_minutesAs_36 ?_
      refine T_iconst (v := nI 1) dX4_minutesAs_37 (by decide) ?_
      refine T_isub dX4_minutesAs_38 ?_
      refine T_iconst (v := nI 0) dX4_minutesAs_39 (by decide) ?_
      refine T_max dX4_minutesAs_40 ml_X4_112 (Nat.le_of_ble_eq_true rfl) ?_
      refine T_iret dX4_minutesAs_43 rfl ?_
      have q := nI_inj (by omega) (by decide) e5
      rw [aunt_n _ (by omega), show minN k m so = m + so - 1 from (if_neg (by rw [q]; decide)).trans (if_pos q)]; exact rt_i
    | 1, _, e5 =>
      refine T_ild3 dX4_minutesAs_32 ?_
      refine T_iconst (v := nI 2) dX4_minutesAs_33 (by decide) ?_
      refine T_idivN dX4_minutesAs_34 (by omega) (by omega) (by omega) ?_
      refine T_iret dX4_minutesAs_35 rfl ?_
      have q := nI_inj (by omega) (by decide) e5
      rw [show minN k m so = (m + so) / 2 from if_pos q]; exact rt_i
    | j + 2, hj, _ => exact absurd hj (by simp)
  · refine T_ild3 dX4_minutesAs_44 ?_
    refine T_iret dX4_minutesAs_45 rfl ?_
    have q1 : k ≠ 1 := fun e => e5 0 (by decide) (by rw [e]; rfl)
    have q2 : k ≠ 2 := fun e => e5 1 (by decide) (by rw [e]; rfl)
    rw [show minN k m so = m + so from (if_neg q2).trans (if_neg q1)]; exact rt_i
set_option maxRecDepth 20000 in
theorem c_X4_minutesOf {S : Nat → Nat → Int32} {L : Nat → Nat → Int64} {R : Nat × Nat × Nat} {d : Nat} {T : Nat} (hT : T = 19 ∨ T = 28) {a : Nat → Nat → Nat} (hV : TV S T a) (hW : WL a) {k : Nat} (hk : k < a 0 0) : TT mX4_minutesOf (d + 2) 0 [some (.ref T), some (.int (nI k))] [] (S, L, R) (rt (some (.int (nI (miN a k)))) (S, L, R)) := by
  obtain ⟨hg, hdn, hso, hbd, hrn, hgu, hdi, hre⟩ := id hV
  obtain ⟨w3, w8, wd1, wd6, wso, wb, wbs, wbp, wne, wrn, wgu, wdi, wre⟩ := id hW
  have q1 := wgu k hk
  refine T_ald0 dX4_minutesOf_0 ?_
  refine T_getR (q := T + 1) dX4_minutesOf_1 lf_X4_9 (kT hT) rfl (rT1 hT) ?_
  refine T_ild1 dX4_minutesOf_4 ?_
  refine T_ialdN dX4_minutesOf_5 (kT1 hT) (by rw [lT1 hT]; omega) (hgu _ (by omega)).1 ?_
  refine T_ald0 dX4_minutesOf_6 ?_
  refine T_getR (q := T + 2) dX4_minutesOf_7 lf_X4_15 (kT hT) rfl (rT2 hT) ?_
  refine T_ild1 dX4_minutesOf_10 ?_
  refine T_ialdN dX4_minutesOf_11 (kT2 hT) (by rw [lT2 hT]; omega) (hgu _ (by omega)).2.1 ?_
  refine T_ald0 dX4_minutesOf_12 ?_
  refine T_getN dX4_minutesOf_13 lf_X4_70 (kT hT) rfl hso ?_
  refine T_invS3i (M' := mX4_minutesAs) dX4_minutesOf_16 ml_X4_117 imX4_minutesAs (Nat.le_of_ble_eq_true rfl) rfl (Nat.le_of_ble_eq_true rfl) (c_X4_minutesAs q1.1 q1.2.1 wso) ?_
  refine T_iret dX4_minutesOf_19 rfl ?_
  exact rt_i
set_option maxRecDepth 20000 in
theorem c_X4_neighbour {S : Nat → Nat → Int32} {L : Nat → Nat → Int64} {R : Nat × Nat × Nat} {d : Nat} {T : Nat} (hT : T = 19 ∨ T = 28) {g : Nat} (hg : S T 8 = nI g) (hg8 : g ≤ 8) {k r : Nat} (hk : k < g) (hr : r < 4) : TT mX4_neighbour (d + 0) 0 [some (.ref T), some (.int (nI k)), some (.int (nI r))] [] (S, L, R) (rt (some (.int (nI (nb g k r)))) (S, L, R)) := by
  refine T_ild2 dX4_neighbour_0 ?_
  refine T_iconst (v := nI 2) dX4_neighbour_1 (by decide) ?_
  refine T_iremN dX4_neighbour_2 (by omega) (by omega) (by omega) ?_
  refine T_ifneN (tgt := 23) dX4_neighbour_3 (by decide) (by omega) (fun h3 => ?_) (fun h3 => ?_)
  · refine T_ild1 dX4_neighbour_23 ?_
    refine T_ald0 dX4_neighbour_24 ?_
    refine T_getN dX4_neighbour_25 lf_X4_36 (kT hT) rfl hg ?_
    refine T_iconst (v := nI 1) dX4_neighbour_28 (by decide) ?_
    refine T_isubN dX4_neighbour_29 (by omega) ?_
    refine T_cneN (tgt := 37) dX4_neighbour_30 (by decide) (by omega) (by omega) (fun h30 => ?_) (fun h30 => ?_)
    · refine T_ild1 dX4_neighbour_37 ?_
      refine T_iconst (v := nI 1) dX4_neighbour_38 (by decide) ?_
      refine T_iaddN dX4_neighbour_39 ?_
      refine T_iret dX4_neighbour_40 rfl ?_
      first | (rw [show nb g k r = g - 1 from (if_pos (by omega)).trans (if_pos (by omega))]; exact rt_i) | (rw [show nb g k r = k - 1 from (if_pos (by omega)).trans (if_neg (by omega))]; exact rt_i) | (rw [show nb g k r = 0 from (if_neg (by omega)).trans (if_pos (by omega))]; exact rt_i) | (rw [show nb g k r = k + 1 from (if_neg (by omega)).trans (if_neg (by omega))]; exact rt_i)
    · refine T_iconst (v := nI 0) dX4_neighbour_33 (by decide) ?_
      refine T_goto (tgt := 40) dX4_neighbour_34 (by decide) ?_
      refine T_iret dX4_neighbour_40 rfl ?_
      first | (rw [show nb g k r = g - 1 from (if_pos (by omega)).trans (if_pos (by omega))]; exact rt_i) | (rw [show nb g k r = k - 1 from (if_pos (by omega)).trans (if_neg (by omega))]; exact rt_i) | (rw [show nb g k r = 0 from (if_neg (by omega)).trans (if_pos (by omega))]; exact rt_i) | (rw [show nb g k r = k + 1 from (if_neg (by omega)).trans (if_neg (by omega))]; exact rt_i)
  · refine T_ild1 dX4_neighbour_6 ?_
    refine T_ifneN (tgt := 19) dX4_neighbour_7 (by decide) (by omega) (fun h7 => ?_) (fun h7 => ?_)
    · refine T_ild1 dX4_neighbour_19 ?_
      refine T_iconst (v := nI 1) dX4_neighbour_20 (by decide) ?_
      refine T_isubN dX4_neighbour_21 (by omega) ?_
      refine T_iret dX4_neighbour_22 rfl ?_
      first | (rw [show nb g k r = g - 1 from (if_pos (by omega)).trans (if_pos (by omega))]; exact rt_i) | (rw [show nb g k r = k - 1 from (if_pos (by omega)).trans (if_neg (by omega))]; exact rt_i) | (rw [show nb g k r = 0 from (if_neg (by omega)).trans (if_pos (by omega))]; exact rt_i) | (rw [show nb g k r = k + 1 from (if_neg (by omega)).trans (if_neg (by omega))]; exact rt_i)
    · refine T_ald0 dX4_neighbour_10 ?_
      refine T_getN dX4_neighbour_11 lf_X4_36 (kT hT) rfl hg ?_
      refine T_iconst (v := nI 1) dX4_neighbour_14 (by decide) ?_
      refine T_isubN dX4_neighbour_15 (by omega) ?_
      refine T_goto (tgt := 22) dX4_neighbour_16 (by decide) ?_
      refine T_iret dX4_neighbour_22 rfl ?_
      first | (rw [show nb g k r = g - 1 from (if_pos (by omega)).trans (if_pos (by omega))]; exact rt_i) | (rw [show nb g k r = k - 1 from (if_pos (by omega)).trans (if_neg (by omega))]; exact rt_i) | (rw [show nb g k r = 0 from (if_neg (by omega)).trans (if_pos (by omega))]; exact rt_i) | (rw [show nb g k r = k + 1 from (if_neg (by omega)).trans (if_neg (by omega))]; exact rt_i)
theorem nb_lt {g k r : Nat} (hk : k < g) : nb g k r < g := by unfold nb; split <;> split <;> omega
theorem oI_none : oI none = -9 := rfl
set_option maxRecDepth 20000 in
theorem c_X4_borderBehind {S : Nat → Nat → Int32} {L : Nat → Nat → Int64} {R : Nat × Nat × Nat} {d : Nat} {T : Nat} (hT : T = 19 ∨ T = 28) {g : Nat} (hg : S T 8 = nI g) (hg8 : g ≤ 8) {b r : Nat} (hb : b < 64) (hs : b / 8 < g) (hp : b % 8 < g) (hr : r < 4) : TT mX4_borderBehind (d + 1) 0 [some (.ref T), some (.int (nI b)), some (.int (nI r)), none, none] [] (S, L, R) (rt (some (.int (oI (beh g b r)))) (S, L, R)) := by
  have q1 := nb_lt (r := r) hs
  have q2 := nb_lt (r := r) hp
  refine T_ild1 dX4_borderBehind_0 ?_
  refine T_invSN1i (M' := mX6_saltOf) dX4_borderBehind_1 ml_X4_100 imX6_saltOf (Nat.le_of_ble_eq_true rfl) rfl (Nat.le_of_ble_eq_true rfl) (c_X6_saltOf (by omega)) ?_
  refine T_ist3 dX4_borderBehind_4 (by decide) rfl ?_
  refine T_ild1 dX4_borderBehind_5 ?_
  refine T_invSN1i (M' := mX6_pepperOf) dX4_borderBehind_6 ml_X4_103 imX6_pepperOf (Nat.le_of_ble_eq_true rfl) rfl (Nat.le_of_ble_eq_true rfl) (c_X6_pepperOf (by omega)) ?_
  refine T_ist4 dX4_borderBehind_9 (by decide) rfl ?_
  refine T_ild2 dX4_borderBehind_11 ?_
  refine T_iconst (v := nI 2) dX4_borderBehind_12 (by decide) ?_
  refine T_cgeN (tgt := 26) dX4_borderBehind_13 (by decide) (by omega) (by omega) (fun h13 => ?_) (fun h13 => ?_)
  · refine T_ald0 dX4_borderBehind_26 ?_
    refine T_ild4 dX4_borderBehind_27 ?_
    refine T_ild2 dX4_borderBehind_29 ?_
    refine T_invV2i (M' := mX4_neighbour) dX4_borderBehind_30 ml_X4_121 imX4_neighbour (kT hT) (Nat.le_of_ble_eq_true rfl) rfl (Nat.le_of_ble_eq_true rfl) rfl (Nat.le_of_ble_eq_true rfl) (c_X4_neighbour hT hg hg8 (by omega) hr) ?_
    refine T_ist4 dX4_borderBehind_33 (by decide) rfl ?_
    refine T_ild3 dX4_borderBehind_35 ?_
    refine T_ild4 dX4_borderBehind_36 ?_
    refine T_cneN (tgt := 46) dX4_borderBehind_38 (by decide) (by omega) (by omega) (fun h38 => ?_) (fun h38 => ?_)
    · refine T_ild3 dX4_borderBehind_46 ?_
      refine T_ild4 dX4_borderBehind_47 ?_
      refine T_invSN2i (M' := mX6_borderOf) dX4_borderBehind_49 ml_X4_88 imX6_borderOf (Nat.le_of_ble_eq_true rfl) rfl (Nat.le_of_ble_eq_true rfl) c_X6_borderOf ?_
      refine T_iret dX4_borderBehind_52 rfl ?_
      first | (rw [show beh g b r = none from (if_pos (by omega)).trans (if_pos (by omega))]; exact rt_i) | (rw [show beh g b r = none from (if_neg (by omega)).trans (if_pos (by omega))]; exact rt_i) | (rw [show beh g b r = some (8 * nb g (b / 8) r + b % 8) from (if_pos (by omega)).trans (if_neg (by omega))]; exact rt_i) | (rw [show beh g b r = some (8 * (b / 8) + nb g (b % 8) r) from (if_neg (by omega)).trans (if_neg (by omega))]; exact rt_i)
    · refine T_bipush (v := -9) dX4_borderBehind_41 (by decide) ?_
      refine T_goto (tgt := 52) dX4_borderBehind_43 (by decide) ?_
      refine T_iret dX4_borderBehind_52 rfl ?_
      first | (rw [show beh g b r = none from (if_pos (by omega)).trans (if_pos (by omega))]; exact rt_i) | (rw [show beh g b r = none from (if_neg (by omega)).trans (if_pos (by omega))]; exact rt_i) | (rw [show beh g b r = some (8 * nb g (b / 8) r + b % 8) from (if_pos (by omega)).trans (if_neg (by omega))]; exact rt_i) | (rw [show beh g b r = some (8 * (b / 8) + nb g (b % 8) r) from (if_neg (by omega)).trans (if_neg (by omega))]; exact rt_i)
  · refine T_ald0 dX4_borderBehind_16 ?_
    refine T_ild3 dX4_borderBehind_17 ?_
    refine T_ild2 dX4_borderBehind_18 ?_
    refine T_invV2i (M' := mX4_neighbour) dX4_borderBehind_19 ml_X4_121 imX4_neighbour (kT hT) (Nat.le_of_ble_eq_true rfl) rfl (Nat.le_of_ble_eq_true rfl) rfl (Nat.le_of_ble_eq_true rfl) (c_X4_neighbour hT hg hg8 (by omega) hr) ?_
    refine T_ist3 dX4_borderBehind_22 (by decide) rfl ?_
    refine T_goto (tgt := 35) dX4_borderBehind_23 (by decide) ?_
    refine T_ild3 dX4_borderBehind_35 ?_
    refine T_ild4 dX4_borderBehind_36 ?_
    refine T_cneN (tgt := 46) dX4_borderBehind_38 (by decide) (by omega) (by omega) (fun h38 => ?_) (fun h38 => ?_)
    · refine T_ild3 dX4_borderBehind_46 ?_
      refine T_ild4 dX4_borderBehind_47 ?_
      refine T_invSN2i (M' := mX6_borderOf) dX4_borderBehind_49 ml_X4_88 imX6_borderOf (Nat.le_of_ble_eq_true rfl) rfl (Nat.le_of_ble_eq_true rfl) c_X6_borderOf ?_
      refine T_iret dX4_borderBehind_52 rfl ?_
      first | (rw [show beh g b r = none from (if_pos (by omega)).trans (if_pos (by omega))]; exact rt_i) | (rw [show beh g b r = none from (if_neg (by omega)).trans (if_pos (by omega))]; exact rt_i) | (rw [show beh g b r = some (8 * nb g (b / 8) r + b % 8) from (if_pos (by omega)).trans (if_neg (by omega))]; exact rt_i) | (rw [show beh g b r = some (8 * (b / 8) + nb g (b % 8) r) from (if_neg (by omega)).trans (if_neg (by omega))]; exact rt_i)
    · refine T_bipush (v := -9) dX4_borderBehind_41 (by decide) ?_
      refine T_goto (tgt := 52) dX4_borderBehind_43 (by decide) ?_
      refine T_iret dX4_borderBehind_52 rfl ?_
      first | (rw [show beh g b r = none from (if_pos (by omega)).trans (if_pos (by omega))]; exact rt_i) | (rw [show beh g b r = none from (if_neg (by omega)).trans (if_pos (by omega))]; exact rt_i) | (rw [show beh g b r = some (8 * nb g (b / 8) r + b % 8) from (if_pos (by omega)).trans (if_neg (by omega))]; exact rt_i) | (rw [show beh g b r = some (8 * (b / 8) + nb g (b % 8) r) from (if_neg (by omega)).trans (if_neg (by omega))]; exact rt_i)
theorem beh_some {g b r b' : Nat} (hg : g ≤ 8) (hs : b / 8 < g) (hp : b % 8 < g) (h : beh g b r = some b') : b' < 64 ∧ b' / 8 < g ∧ b' % 8 < g ∧ b' / 8 ≠ b' % 8 := by
  have q1 := nb_lt (r := r) hs
  have q2 := nb_lt (r := r) hp
  unfold beh at h
  split at h <;> split at h <;> first | cases h; done | (cases h; omega)
theorem oI_ne {g b r b' : Nat} (hg : g ≤ 8) (hs : b / 8 < g) (hp : b % 8 < g) (h : beh g b r = some b') : ¬ oI (some b') = -9 := by
  have := (beh_some hg hs hp h).1
  intro e
  have h1 : nI b' = -9 := e
  have h2 := congrArg Int32.toInt h1
  rw [nI_toInt (by omega)] at h2
  have h3 : (-9 : Int32).toInt = -9 := by decide
  omega
set_option maxRecDepth 20000 in
theorem c_X4_isBorder {S : Nat → Nat → Int32} {L : Nat → Nat → Int64} {R : Nat × Nat × Nat} {d : Nat} {T : Nat} (hT : T = 19 ∨ T = 28) {g : Nat} (hg : S T 8 = nI g) (hg8 : g ≤ 8) {b : Nat} (hb : b < 64) : TT mX4_isBorder (d + 1) 0 [some (.ref T), some (.int (nI b)), none, none] [] (S, L, R) (rt (some (.int (bI (isB g b)))) (S, L, R)) := by
  refine T_ild1 dX4_isBorder_0 ?_
  refine T_invSN1i (M' := mX6_saltOf) dX4_isBorder_1 ml_X4_100 imX6_saltOf (Nat.le_of_ble_eq_true rfl) rfl (Nat.le_of_ble_eq_true rfl) (c_X6_saltOf (by omega)) ?_
  refine T_ist2 dX4_isBorder_4 (by decide) rfl ?_
  refine T_ild1 dX4_isBorder_5 ?_
  refine T_invSN1i (M' := mX6_pepperOf) dX4_isBorder_6 ml_X4_103 imX6_pepperOf (Nat.le_of_ble_eq_true rfl) rfl (Nat.le_of_ble_eq_true rfl) (c_X6_pepperOf (by omega)) ?_
  refine T_ist3 dX4_isBorder_9 (by decide) rfl ?_
  refine T_ild2 dX4_isBorder_10 ?_
  refine T_ald0 dX4_isBorder_11 ?_
  refine T_getN dX4_isBorder_12 lf_X4_36 (kT hT) rfl hg ?_
  refine T_cgeN (tgt := 35) dX4_isBorder_15 (by decide) (by omega) (by omega) (fun h15 => ?_) (fun h15 => ?_)
  · refine T_iconst (v := bI false) dX4_isBorder_35 (by decide) ?_
    refine T_bretB dX4_isBorder_36 rfl ?_
    first | (rw [show isB g b = true by simp only [isB, Bool.and_eq_true, decide_eq_true_eq]; omega]; exact rt_i) | (rw [show isB g b = false by simp only [isB, Bool.and_eq_false_iff, decide_eq_false_iff_not]; omega]; exact rt_i)
  · refine T_ild3 dX4_isBorder_18 ?_
    refine T_ald0 dX4_isBorder_19 ?_
    refine T_getN dX4_isBorder_20 lf_X4_36 (kT hT) rfl hg ?_
    refine T_cgeN (tgt := 35) dX4_isBorder_23 (by decide) (by omega) (by omega) (fun h23 => ?_) (fun h23 => ?_)
    · refine T_iconst (v := bI false) dX4_isBorder_35 (by decide) ?_
      refine T_bretB dX4_isBorder_36 rfl ?_
      first | (rw [show isB g b = true by simp only [isB, Bool.and_eq_true, decide_eq_true_eq]; omega]; exact rt_i) | (rw [show isB g b = false by simp only [isB, Bool.and_eq_false_iff, decide_eq_false_iff_not]; omega]; exact rt_i)
    · refine T_ild2 dX4_isBorder_26 ?_
      refine T_ild3 dX4_isBorder_27 ?_
      refine T_ceqN (tgt := 35) dX4_isBorder_28 (by decide) (by omega) (by omega) (fun h28 => ?_) (fun h28 => ?_)
      · refine T_iconst (v := bI false) dX4_isBorder_35 (by decide) ?_
        refine T_bretB dX4_isBorder_36 rfl ?_
        first | (rw [show isB g b = true by simp only [isB, Bool.and_eq_true, decide_eq_true_eq]; omega]; exact rt_i) | (rw [show isB g b = false by simp only [isB, Bool.and_eq_false_iff, decide_eq_false_iff_not]; omega]; exact rt_i)
      · refine T_iconst (v := bI true) dX4_isBorder_31 (by decide) ?_
        refine T_goto (tgt := 36) dX4_isBorder_32 (by decide) ?_
        refine T_bretB dX4_isBorder_36 rfl ?_
        first | (rw [show isB g b = true by simp only [isB, Bool.and_eq_true, decide_eq_true_eq]; omega]; exact rt_i) | (rw [show isB g b = false by simp only [isB, Bool.and_eq_false_iff, decide_eq_false_iff_not]; omega]; exact rt_i)
