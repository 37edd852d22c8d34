/-! sheets, parts, dinners, the table of the class -/
abbrev HS : Type := (Nat → Bool) × (Nat → Nat) × (Nat → Nat) × (Nat → Nat → Int32)
def SHC (S : Nat → Nat → Int32) (h : HS) : Prop := ∀ j, j < 4 → S (2 + j) 1 = bI (h.1 j) ∧ (h.1 j = true → S (2 + j) 2 = nI (h.2.1 j) ∧ S (2 + j) 3 = nI (h.2.2.1 j) ∧ h.2.2.1 j ≤ 60) ∧ ∀ i, i < 60 → S (6 + j) i = h.2.2.2 j i
def BH (h : HS) : Prop := ∀ j, j < 4 → h.1 j = true → h.2.1 j < 3 ∧ h.2.2.1 j ≤ 60
theorem SHC.cong {S S' : Nat → Nat → Int32} {h : HS} (hH : SHC S h) (hq : ∀ q, 2 ≤ q → q ≤ 9 → S' q = S q) : SHC S' h := by
  intro j hj
  rw [hq (2 + j) (by omega) (by omega), hq (6 + j) (by omega) (by omega)]
  exact hH j hj
/-- but for the sheets' places and the fault nothing changes -/
def FS (S S' : Nat → Nat → Int32) : Prop := (∀ q, q ≠ 0 → ¬ (2 ≤ q ∧ q ≤ 9) → S' q = S q) ∧ ∀ k, k ≠ 8 → S' 0 k = S 0 k
theorem FS_r {S : Nat → Nat → Int32} : FS S S := ⟨fun _ _ _ => rfl, fun _ _ => rfl⟩
theorem FS_u {S S' : Nat → Nat → Int32} {q k : Nat} {x : Int32} (h : FS S S') (h1 : 2 ≤ q) (h2 : q ≤ 9) : FS S (uI S' q k x) :=
  ⟨fun z h3 h4 => by rw [uI_p (by omega)]; exact h.1 z h3 h4, fun i hi => by rw [uI_p (by omega)]; exact h.2 i hi⟩
theorem FS_8 {S S' : Nat → Nat → Int32} {x : Int32} (h : FS S S') : FS S (uI S' 0 8 x) :=
  ⟨fun z h3 h4 => by rw [uI_p h3]; exact h.1 z h3 h4, fun i hi => by rw [uI_k hi]; exact h.2 i hi⟩
theorem FS_w {S S' : Nat → Nat → Int32} {q n : Nat} {f : Nat → Int32} (h : FS S S') (h1 : 2 ≤ q) (h2 : q ≤ 9) : FS S (wf S' q f n) :=
  ⟨fun z h3 h4 => by rw [wf_p (by omega)]; exact h.1 z h3 h4, fun i hi => by rw [wf_p (by omega)]; exact h.2 i hi⟩
theorem fau_0 {th : Bool} {la n : Nat} {l x y : Int32} (h : fau th la n l x y = 0) : th = true ∧ l = nI la ∧ ¬ y < 0 ∧ hasB x y n = true := by
  unfold fau at h
  split at h; · cases h
  split at h; · cases h
  split at h; · cases h
  split at h
  · rename_i h1 h2 h3 h4
    exact ⟨by simpa using h1, Classical.not_not.mp h2, h3, h4⟩
  · cases h
theorem fau_le {th : Bool} {la n : Nat} {l x y : Int32} : fau th la n l x y ≤ 4 := by
  unfold fau
  split; · omega
  split; · omega
  split; · omega
  split <;> omega
def tr (t : Int32) (n : Nat) : Int32 := nI 31 * t + nI n
def aTell (a : Nat → Nat → Nat) (x : Int32) : Int32 := if blw x (a 0 0) then (if a 5 (ix x) = 2 then nI (2 * a 6 (ix x) + 100) else if a 5 (ix x) = 1 then nI (a 6 (ix x) + 100) else nI (a 6 (ix x))) else -1
def tTell (a : Nat → Nat → Nat) (x t : Int32) : Int32 := if blw x (a 0 0) then (if a 5 (ix x) = 2 then tr (tr (tr (tr t 3) 2) 1) 1 else if a 5 (ix x) = 1 then tr (tr t 2) 1 else tr t 1) else t
def aToast (a : Nat → Nat → Nat) (x : Int32) : Int32 := if blw x (a 0 0) then (if a 5 (ix x) = 2 then nI 20 else x) else -1
def tToast (a : Nat → Nat → Nat) (x t : Int32) : Int32 := if blw x (a 0 0) then (if a 5 (ix x) = 2 then tr t 5 else tr t 4) else t
def aAs (a : Nat → Nat → Nat) (x k : Int32) : Int32 := if blw x (a 0 0) then (if blw k 3 then (if ix k ≤ a 5 (ix x) then nI 1 else -10 - nI 2) else -2) else -1
def fAs (a : Nat → Nat → Nat) (x k : Int32) : Nat := if blw x (a 0 0) && blw k 3 && !decide (ix k ≤ a 5 (ix x)) then 2 else 0
def aSheet (x l y : Int32) : Int32 := if blw x 4 then (if blw l 3 && !decide (nI 60 < y) then (if y < 0 then -10 - nI 4 else nI 1) else -2) else -1
def fSheet (x l y : Int32) : Nat := if blw x 4 && (blw l 3 && !decide (nI 60 < y)) && decide (y < 0) then 4 else 0
def sSheet (h : HS) (x l y : Int32) : HS := if blw x 4 && (blw l 3 && !decide (nI 60 < y)) && !decide (y < 0) then (va_up h.1 (ix x) true, va_up h.2.1 (ix x) (ix l), va_up h.2.2.1 (ix x) (ix y), va_up h.2.2.2 (ix x) (fun _ => nI 0)) else h
def aLose (h : HS) (x : Int32) : Int32 := if blw x 4 then (if h.1 (ix x) then nI 1 else nI 0) else -1
def sLose (h : HS) (x : Int32) : HS := if blw x 4 then (va_up h.1 (ix x) false, h.2) else h
def aPut (h : HS) (x i : Int32) : Int32 := if blw x 4 then (if h.1 (ix x) then (if blw i (h.2.2.1 (ix x)) then nI 1 else -10 - nI 3) else -10 - nI 1) else -1
def fPut (h : HS) (x i : Int32) : Nat := if blw x 4 then (if h.1 (ix x) then (if blw i (h.2.2.1 (ix x)) then 0 else 3) else 1) else 0
def sPut (h : HS) (x i v : Int32) : HS := if blw x 4 && h.1 (ix x) && blw i (h.2.2.1 (ix x)) then (h.1, h.2.1, h.2.2.1, va_up h.2.2.2 (ix x) (va_up (h.2.2.2 (ix x)) (ix i) (cutI (h.2.1 (ix x)) v))) else h
noncomputable def fC (h : HS) (x l i n : Int32) : Nat := fau (h.1 (ix x)) (h.2.1 (ix x)) (h.2.2.1 (ix x)) l i n
noncomputable def aCell (h : HS) (x i l : Int32) : Int64 := if blw x 4 && blw l 3 then (if fC h x l i (nI 1) = 0 then (h.2.2.2 (ix x) (ix i)).toInt64 else LOSTV) else LOSTV
noncomputable def fCell (h : HS) (x i l : Int32) : Nat := if blw x 4 && blw l 3 then fC h x l i (nI 1) else 0
noncomputable def aCopy (h : HS) (x i y j n : Int32) : Int32 := if blw x 4 && blw y 4 then (if h.1 (ix x) && h.1 (ix y) then (if h.2.1 (ix x) = h.2.1 (ix y) then (if hasB i n (h.2.2.1 (ix x)) && hasB j n (h.2.2.1 (ix y)) then n else -10 - nI 3) else -10 - nI 2) else -10 - nI 1) else -1
noncomputable def fCopy (h : HS) (x i y j n : Int32) : Nat := if blw x 4 && blw y 4 then (if h.1 (ix x) && h.1 (ix y) then (if h.2.1 (ix x) = h.2.1 (ix y) then (if hasB i n (h.2.2.1 (ix x)) && hasB j n (h.2.2.1 (ix y)) then 0 else 3) else 2) else 1) else 0
noncomputable def sCopy (h : HS) (x i y j n : Int32) : HS := if blw x 4 && blw y 4 && (h.1 (ix x) && h.1 (ix y)) && decide (h.2.1 (ix x) = h.2.1 (ix y)) && (hasB i n (h.2.2.1 (ix x)) && hasB j n (h.2.2.1 (ix y))) then (h.1, h.2.1, h.2.2.1, va_up h.2.2.2 (ix y) (va_cpy (h.2.2.2 (ix x)) (h.2.2.2 (ix y)) (ix i) (ix j) (ix n))) else h
theorem hasB_1 {x : Int32} {n : Nat} (hn : n ≤ 60) : hasB x (nI 1) n = blw x n := by
  cases e : blw x n with
  | true => obtain ⟨k, hk, rfl⟩ := blw_t e; exact hasB_i rfl rfl (by omega)
  | false => exact hasB_f (fun i k h1 h2 h3 => blw_f e (show i < n by have := nI_inj (by decide) (by omega) h2; omega) h1)
set_option maxRecDepth 20000 in
theorem c_X6_broken {S : Nat → Nat → Int32} {L : Nat → Nat → Int64} {nw sp cd : Nat} {d : Nat} {f : Nat} : TT mX6_broken (d + 0) 0 [some (.ref 0), some (.int (nI f))] [] (S, L, (nw, sp, cd)) (rt (some (.int (-10 - nI f))) (uI S 0 8 (nI f), L, (nw, sp, cd))) := by
  refine T_ald0 dX6_broken_0 ?_
  refine T_ild1 dX6_broken_1 ?_
  refine T_putI dX6_broken_2 lf_X6_56 rfl rfl rfl rfl ?_
  refine T_bipush (v := -10) dX6_broken_5 (by decide) ?_
  refine T_ild1 dX6_broken_7 ?_
  refine T_isub dX6_broken_8 ?_
  refine T_iret dX6_broken_9 rfl ?_
  exact rt_i
set_option maxRecDepth 20000 in
theorem c_X6_leave {S : Nat → Nat → Int32} {L : Nat → Nat → Int64} {nw sp cd : Nat} {d : Nat} {n : Nat} : TT mX6_leave (d + 0) 0 [some (.ref 0), some (.int (nI n))] [] (S, L, (nw, sp, cd)) (rt none (uI S 0 7 (tr (S 0 7) n), L, (nw, sp, cd))) := by
  refine T_ald0 dX6_leave_0 ?_
  refine T_bipush (v := nI 31) dX6_leave_1 (by decide) ?_
  refine T_ald0 dX6_leave_3 ?_
  refine T_getI dX6_leave_4 lf_X6_259 rfl rfl ?_
  refine T_imul dX6_leave_7 ?_
  refine T_ild1 dX6_leave_8 ?_
  refine T_iadd dX6_leave_9 ?_
  refine T_putI dX6_leave_10 lf_X6_259 rfl rfl rfl rfl ?_
  refine T_vret dX6_leave_13 rfl ?_
  exact rt_i
set_option maxRecDepth 20000 in
theorem c_X6_trace {S : Nat → Nat → Int32} {L : Nat → Nat → Int64} {nw sp cd : Nat} {d : Nat}  : TT mX6_trace (d + 0) 0 [some (.ref 0)] [] (S, L, (nw, sp, cd)) (rt (some (.int (S 0 7))) (S, L, (nw, sp, cd))) := by
  refine T_ald0 dX6_trace_0 ?_
  refine T_getI dX6_trace_1 lf_X6_259 rfl rfl ?_
  refine T_iret dX6_trace_4 rfl ?_
  exact rt_i
set_option maxRecDepth 20000 in
theorem c_X6_fault {S : Nat → Nat → Int32} {L : Nat → Nat → Int64} {nw sp cd : Nat} {d : Nat}  : TT mX6_fault (d + 0) 0 [some (.ref 0)] [] (S, L, (nw, sp, cd)) (rt (some (.int (S 0 8))) (S, L, (nw, sp, cd))) := by
  refine T_ald0 dX6_fault_0 ?_
  refine T_getI dX6_fault_1 lf_X6_56 rfl rfl ?_
  refine T_iret dX6_fault_4 rfl ?_
  exact rt_i
set_option maxRecDepth 20000 in
theorem c_X6_guestTells {S : Nat → Nat → Int32} {L : Nat → Nat → Int64} {nw sp cd : Nat} {d : Nat} (hnw : nw = 19 ∨ nw = 28) {a : Nat → Nat → Nat} (hV : TV S nw a) (hWF : WFA a) {k : Nat} (hk : k < a 0 0) : TT mX6_guestTells (d + 1) 0 [some (.ref 0), some (.int (nI k))] [] (S, L, (nw, sp, cd)) (rt (some (.int (nI (a 6 k)))) (uI S 0 7 (tr (S 0 7) 1), L, (nw, sp, cd))) := by
  obtain ⟨hg, hdn, hso, hbd, hrn, hgu, hdi, hre⟩ := id hV
  obtain ⟨b8, b6, b3, b64, br8⟩ := hWF.b
  refine T_ald0 dX6_guestTells_0 ?_
  refine T_iconst (v := nI 1) dX6_guestTells_1 (by decide) ?_
  refine T_invV1v (M' := mX6_leave) dX6_guestTells_2 ml_X6_255 imX6_leave rfl (Nat.le_of_ble_eq_true rfl) rfl (Nat.le_of_ble_eq_true rfl) rfl (Nat.le_of_ble_eq_true rfl) c_X6_leave ?_
  refine T_ald0 dX6_guestTells_5 ?_
  refine T_getR (q := nw) dX6_guestTells_6 lf_X6_48 rfl rfl rfl ?_
  refine T_getR (q := nw + 2) dX6_guestTells_9 lf_X6_97 (kT hnw) rfl (rT2 hnw) ?_
  refine T_ild1 dX6_guestTells_12 ?_
  refine T_ialdN dX6_guestTells_13 (kT2 hnw) (by rw [lT2 hnw]; omega) (by rw [uI_p (by omega)]; exact (hgu _ hk).2.1) ?_
  refine T_iret dX6_guestTells_14 rfl ?_
  exact rt_i
theorem TV_7 {S : Nat → Nat → Int32} {T : Nat} {a : Nat → Nat → Nat} {k : Nat} {x : Int32} (hT : T = 19 ∨ T = 28) (hV : TV S T a) : TV (uI S 0 k x) T a := hV.cong (fun q h1 _ _ => uI_p (by omega))
theorem uI_uI {S : Nat → Nat → Int32} {q k : Nat} {x y : Int32} : uI (uI S q k x) q k y = uI S q k y := by
  funext r i
  by_cases h1 : r = q
  · subst h1
    by_cases h2 : i = k
    · subst h2; simp [uI]
    · rw [uI_k h2, uI_k h2, uI_k h2]
  · rw [uI_p h1, uI_p h1, uI_p h1]
set_option maxRecDepth 20000 in
theorem c_X6_auntTells {S : Nat → Nat → Int32} {L : Nat → Nat → Int64} {nw sp cd : Nat} {d : Nat} (hnw : nw = 19 ∨ nw = 28) {a : Nat → Nat → Nat} (hV : TV S nw a) (hWF : WFA a) {k : Nat} (hk : k < a 0 0) : TT mX6_auntTells (d + 2) 0 [some (.ref 0), some (.int (nI k))] [] (S, L, (nw, sp, cd)) (rt (some (.int (nI (a 6 k + 100)))) (uI S 0 7 (tr (tr (S 0 7) 2) 1), L, (nw, sp, cd))) := by
  obtain ⟨hg, hdn, hso, hbd, hrn, hgu, hdi, hre⟩ := id hV
  obtain ⟨b8, b6, b3, b64, br8⟩ := hWF.b
  refine T_ald0 dX6_auntTells_0 ?_
  refine T_iconst (v := nI 2) dX6_auntTells_1 (by decide) ?_
  refine T_invV1v (M' := mX6_leave) dX6_auntTells_2 ml_X6_255 imX6_leave rfl (Nat.le_of_ble_eq_true rfl) rfl (Nat.le_of_ble_eq_true rfl) rfl (Nat.le_of_ble_eq_true rfl) c_X6_leave ?_
  refine T_ald0 dX6_auntTells_5 ?_
  refine T_ild1 dX6_auntTells_6 ?_
  refine T_invV1i (M' := mX6_guestTells) dX6_auntTells_7 ml_X6_252 imX6_guestTells rfl (Nat.le_of_ble_eq_true rfl) rfl (Nat.le_of_ble_eq_true rfl) rfl (Nat.le_of_ble_eq_true rfl) (c_X6_guestTells hnw (TV_7 hnw hV) hWF hk) ?_
  refine T_bipush (v := nI 100) dX6_auntTells_10 (by decide) ?_
  refine T_iaddN dX6_auntTells_12 ?_
  refine T_iret dX6_auntTells_13 rfl ?_
  rw [uI_uI, uI_s]; exact rt_i
set_option maxRecDepth 20000 in
theorem c_X6_childTells {S : Nat → Nat → Int32} {L : Nat → Nat → Int64} {nw sp cd : Nat} {d : Nat} (hnw : nw = 19 ∨ nw = 28) {a : Nat → Nat → Nat} (hV : TV S nw a) (hWF : WFA a) {k : Nat} (hk : k < a 0 0) : TT mX6_childTells (d + 3) 0 [some (.ref 0), some (.int (nI k))] [] (S, L, (nw, sp, cd)) (rt (some (.int (nI (2 * a 6 k + 100)))) (uI S 0 7 (tr (tr (tr (tr (S 0 7) 3) 2) 1) 1), L, (nw, sp, cd))) := by
  obtain ⟨hg, hdn, hso, hbd, hrn, hgu, hdi, hre⟩ := id hV
  obtain ⟨b8, b6, b3, b64, br8⟩ := hWF.b
  refine T_ald0 dX6_childTells_0 ?_
  refine T_iconst (v := nI 3) dX6_childTells_1 (by decide) ?_
  refine T_invV1v (M' := mX6_leave) dX6_childTells_2 ml_X6_255 imX6_leave rfl (Nat.le_of_ble_eq_true rfl) rfl (Nat.le_of_ble_eq_true rfl) rfl (Nat.le_of_ble_eq_true rfl) c_X6_leave ?_
  refine T_ald0 dX6_childTells_5 ?_
  refine T_ild1 dX6_childTells_6 ?_
  refine T_invV1i (M' := mX6_auntTells) dX6_childTells_7 ml_X6_249 imX6_auntTells rfl (Nat.le_of_ble_eq_true rfl) rfl (Nat.le_of_ble_eq_true rfl) rfl (Nat.le_of_ble_eq_true rfl) (c_X6_auntTells hnw (TV_7 hnw hV) hWF hk) ?_
  refine T_ald0 dX6_childTells_10 ?_
  refine T_ild1 dX6_childTells_11 ?_
  refine T_invV1i (M' := mX6_guestTells) dX6_childTells_12 ml_X6_252 imX6_guestTells rfl (Nat.le_of_ble_eq_true rfl) rfl (Nat.le_of_ble_eq_true rfl) rfl (Nat.le_of_ble_eq_true rfl) (c_X6_guestTells hnw (TV_7 hnw (TV_7 hnw hV)) hWF hk) ?_
  refine T_iaddN dX6_childTells_15 ?_
  refine T_iret dX6_childTells_16 rfl ?_
  rw [uI_uI, uI_uI, uI_s, uI_s, show a 6 k + 100 + a 6 k = 2 * a 6 k + 100 by omega]; exact rt_i
set_option maxRecDepth 20000 in
theorem c_X6_tell {S : Nat → Nat → Int32} {L : Nat → Nat → Int64} {nw sp cd : Nat} {d : Nat} (hnw : nw = 19 ∨ nw = 28) {a : Nat → Nat → Nat} (hV : TV S nw a) (hWF : WFA a) {x : Int32} : TT mX6_tell (d + 4) 0 [some (.ref 0), some (.int (x))] [] (S, L, (nw, sp, cd)) (fun r σ' => ∃ S', σ' = (S', L, (nw, sp, cd)) ∧ r = some (.int (aTell a x)) ∧ (∀ q, q ≠ 0 → S' q = S q) ∧ (∀ k, k ≠ 7 → S' 0 k = S 0 k) ∧ S' 0 7 = tTell a x (S 0 7)) := by
  obtain ⟨hg, hdn, hso, hbd, hrn, hgu, hdi, hre⟩ := id hV
  obtain ⟨b8, b6, b3, b64, br8⟩ := hWF.b
  refine T_ild1 dX6_tell_0 ?_
  refine T_ald0 dX6_tell_1 ?_
  refine T_getR (q := nw) dX6_tell_2 lf_X6_48 rfl rfl rfl ?_
  refine T_getN dX6_tell_5 lf_X6_91 (kT hnw) rfl hg ?_
  refine T_invS2i (M' := mX6_isBelow) dX6_tell_8 ml_X6_64 imX6_isBelow (Nat.le_of_ble_eq_true rfl) rfl (Nat.le_of_ble_eq_true rfl) (c_X6_isBelow (by omega)) ?_
  refine T_ifneB (tgt := 16) dX6_tell_11 (by decide) (fun h11 => ?_) (fun h11 => ?_)
  · obtain ⟨k, hk, rfl⟩ := blw_t h11
    have ik : ix (nI k) = k := ix_n (by omega)
    have hW := hWF.g (by omega)
    obtain ⟨w3, w8, wd1, wd6, wso, wb, wbs, wbp, wne, wrn, wgu, wdi, wre⟩ := id hW
    refine T_ald0 dX6_tell_16 ?_
    refine T_getR (q := nw) dX6_tell_17 lf_X6_48 rfl rfl rfl ?_
    refine T_getR (q := nw + 1) dX6_tell_20 lf_X6_94 (kT hnw) rfl (rT1 hnw) ?_
    refine T_ild1 dX6_tell_23 ?_
    refine T_ialdN dX6_tell_24 (kT1 hnw) (by rw [lT1 hnw]; omega) (hgu _ (by omega)).1 ?_
    refine T_lk [(1, 58), (2, 52)] 64 dX6_tell_25 (by decide) (by decide) (by decide) (by decide) (fun j hj e25 => ?_) (fun e25 => ?_)
    · match j, hj, e25 with
      | 0, _, e25 =>
        refine T_ald0 dX6_tell_58 ?_
        refine T_ild1 dX6_tell_59 ?_
        refine T_invV1i (M' := mX6_auntTells) dX6_tell_60 ml_X6_249 imX6_auntTells rfl (Nat.le_of_ble_eq_true rfl) rfl (Nat.le_of_ble_eq_true rfl) rfl (Nat.le_of_ble_eq_true rfl) (c_X6_auntTells hnw hV hWF hk) ?_
        refine T_iret dX6_tell_63 rfl ?_
        have q : a 5 k = 1 := nI_inj (by have := wgu k hk; omega) (by decide) e25
        rw [show aTell a (nI k) = nI (a 6 k + 100) from (if_pos h11).trans (by rw [ik, if_neg (by rw [q]; decide), if_pos q]), show tTell a (nI k) (S 0 7) = _ from (if_pos h11).trans (by rw [ik, if_neg (by rw [q]; decide), if_pos q])]; exact ⟨_, rfl, rfl, fun q hq => uI_p hq, fun k hk => uI_k hk, uI_s⟩
      | 1, _, e25 =>
        refine T_ald0 dX6_tell_52 ?_
        refine T_ild1 dX6_tell_53 ?_
        refine T_invV1i (M' := mX6_childTells) dX6_tell_54 ml_X6_246 imX6_childTells rfl (Nat.le_of_ble_eq_true rfl) rfl (Nat.le_of_ble_eq_true rfl) rfl (Nat.le_of_ble_eq_true rfl) (c_X6_childTells hnw hV hWF hk) ?_
        refine T_iret dX6_tell_57 rfl ?_
        have q : a 5 k = 2 := nI_inj (by have := wgu k hk; omega) (by decide) e25
        rw [show aTell a (nI k) = nI (2 * a 6 k + 100) from (if_pos h11).trans (by rw [ik, if_pos q]), show tTell a (nI k) (S 0 7) = _ from (if_pos h11).trans (by rw [ik, if_pos q])]; exact ⟨_, rfl, rfl, fun q hq => uI_p hq, fun k hk => uI_k hk, uI_s⟩
      | j + 2, hj, _ => exact absurd hj (by simp)
    · refine T_ald0 dX6_tell_64 ?_
      refine T_ild1 dX6_tell_65 ?_
      refine T_invV1i (M' := mX6_guestTells) dX6_tell_66 ml_X6_252 imX6_guestTells rfl (Nat.le_of_ble_eq_true rfl) rfl (Nat.le_of_ble_eq_true rfl) rfl (Nat.le_of_ble_eq_true rfl) (c_X6_guestTells hnw hV hWF hk) ?_
      refine T_iret dX6_tell_69 rfl ?_
      have q1 : a 5 k ≠ 1 := fun e => e25 0 (by decide) (by rw [e]; rfl)
      have q2 : a 5 k ≠ 2 := fun e => e25 1 (by decide) (by rw [e]; rfl)
      rw [show aTell a (nI k) = nI (a 6 k) from (if_pos h11).trans (by rw [ik, if_neg q2, if_neg q1]), show tTell a (nI k) (S 0 7) = _ from (if_pos h11).trans (by rw [ik, if_neg q2, if_neg q1])]; exact ⟨_, rfl, rfl, fun q hq => uI_p hq, fun k hk => uI_k hk, uI_s⟩
  · refine T_iconst (v := -1) dX6_tell_14 (by decide) ?_
    refine T_iret dX6_tell_15 rfl ?_
    rw [show aTell a x = -1 from if_neg (by simp [h11]), show tTell a x (S 0 7) = S 0 7 from if_neg (by simp [h11])]; exact ⟨_, rfl, rfl, fun _ _ => rfl, fun _ _ => rfl, rfl⟩
set_option maxRecDepth 20000 in
theorem c_X6_toast {S : Nat → Nat → Int32} {L : Nat → Nat → Int64} {nw sp cd : Nat} {d : Nat} (hnw : nw = 19 ∨ nw = 28) {a : Nat → Nat → Nat} (hV : TV S nw a) (hWF : WFA a) {x : Int32} : TT mX6_toast (d + 1) 0 [some (.ref 0), some (.int (x))] [] (S, L, (nw, sp, cd)) (fun r σ' => ∃ S', σ' = (S', L, (nw, sp, cd)) ∧ r = some (.int (aToast a x)) ∧ (∀ q, q ≠ 0 → S' q = S q) ∧ (∀ k, k ≠ 7 → S' 0 k = S 0 k) ∧ S' 0 7 = tToast a x (S 0 7)) := by
  obtain ⟨hg, hdn, hso, hbd, hrn, hgu, hdi, hre⟩ := id hV
  obtain ⟨b8, b6, b3, b64, br8⟩ := hWF.b
  refine T_ild1 dX6_toast_0 ?_
  refine T_ald0 dX6_toast_1 ?_
  refine T_getR (q := nw) dX6_toast_2 lf_X6_48 rfl rfl rfl ?_
  refine T_getN dX6_toast_5 lf_X6_91 (kT hnw) rfl hg ?_
  refine T_invS2i (M' := mX6_isBelow) dX6_toast_8 ml_X6_64 imX6_isBelow (Nat.le_of_ble_eq_true rfl) rfl (Nat.le_of_ble_eq_true rfl) (c_X6_isBelow (by omega)) ?_
  refine T_ifneB (tgt := 16) dX6_toast_11 (by decide) (fun h11 => ?_) (fun h11 => ?_)
  · obtain ⟨k, hk, rfl⟩ := blw_t h11
    have ik : ix (nI k) = k := ix_n (by omega)
    have hW := hWF.g (by omega)
    obtain ⟨w3, w8, wd1, wd6, wso, wb, wbs, wbp, wne, wrn, wgu, wdi, wre⟩ := id hW
    have qk := wgu k hk
    refine T_ald0 dX6_toast_16 ?_
    refine T_getR (q := nw) dX6_toast_17 lf_X6_48 rfl rfl rfl ?_
    refine T_getR (q := nw + 1) dX6_toast_20 lf_X6_94 (kT hnw) rfl (rT1 hnw) ?_
    refine T_ild1 dX6_toast_23 ?_
    refine T_ialdN dX6_toast_24 (kT1 hnw) (by rw [lT1 hnw]; omega) (hgu _ (by omega)).1 ?_
    refine T_iconst (v := nI 2) dX6_toast_25 (by decide) ?_
    refine T_cneN (tgt := 37) dX6_toast_26 (by decide) (by omega) (by omega) (fun h26 => ?_) (fun h26 => ?_)
    · refine T_ald0 dX6_toast_37 ?_
      refine T_iconst (v := nI 4) dX6_toast_38 (by decide) ?_
      refine T_invV1v (M' := mX6_leave) dX6_toast_39 ml_X6_255 imX6_leave rfl (Nat.le_of_ble_eq_true rfl) rfl (Nat.le_of_ble_eq_true rfl) rfl (Nat.le_of_ble_eq_true rfl) c_X6_leave ?_
      refine T_ild1 dX6_toast_42 ?_
      refine T_iret dX6_toast_43 rfl ?_
      rw [show aToast a (nI k) = nI k from (if_pos h11).trans (by rw [ik, if_neg h26]), show tToast a (nI k) (S 0 7) = _ from (if_pos h11).trans (by rw [ik, if_neg h26])]; exact ⟨_, rfl, rfl, fun q hq => uI_p hq, fun k hk => uI_k hk, uI_s⟩
    · refine T_ald0 dX6_toast_29 ?_
      refine T_iconst (v := nI 5) dX6_toast_30 (by decide) ?_
      refine T_invV1v (M' := mX6_leave) dX6_toast_31 ml_X6_255 imX6_leave rfl (Nat.le_of_ble_eq_true rfl) rfl (Nat.le_of_ble_eq_true rfl) rfl (Nat.le_of_ble_eq_true rfl) c_X6_leave ?_
      refine T_bipush (v := nI 20) dX6_toast_34 (by decide) ?_
      refine T_iret dX6_toast_36 rfl ?_
      rw [show aToast a (nI k) = nI 20 from (if_pos h11).trans (by rw [ik, if_pos h26]), show tToast a (nI k) (S 0 7) = _ from (if_pos h11).trans (by rw [ik, if_pos h26])]; exact ⟨_, rfl, rfl, fun q hq => uI_p hq, fun k hk => uI_k hk, uI_s⟩
  · refine T_iconst (v := -1) dX6_toast_14 (by decide) ?_
    refine T_iret dX6_toast_15 rfl ?_
    rw [show aToast a x = -1 from if_neg (by simp [h11]), show tToast a x (S 0 7) = S 0 7 from if_neg (by simp [h11])]; exact ⟨_, rfl, rfl, fun _ _ => rfl, fun _ _ => rfl, rfl⟩
set_option maxRecDepth 20000 in
theorem c_X6_as {S : Nat → Nat → Int32} {L : Nat → Nat → Int64} {nw sp cd : Nat} {d : Nat} (hnw : nw = 19 ∨ nw = 28) {a : Nat → Nat → Nat} (hV : TV S nw a) (hWF : WFA a) {x y : Int32} : TT mX6_as (d + 1) 0 [some (.ref 0), some (.int (x)), some (.int (y))] [] (S, L, (nw, sp, cd)) (fun r σ' => ∃ S', σ' = (S', L, (nw, sp, cd)) ∧ r = some (.int (aAs a x y)) ∧ (∀ q, q ≠ 0 → S' q = S q) ∧ (∀ k, k ≠ 8 → S' 0 k = S 0 k) ∧ S' 0 8 = nI (fAs a x y)) := by
  obtain ⟨hg, hdn, hso, hbd, hrn, hgu, hdi, hre⟩ := id hV
  obtain ⟨b8, b6, b3, b64, br8⟩ := hWF.b
  refine T_ald0 dX6_as_0 ?_
  refine T_iconst (v := nI 0) dX6_as_1 (by decide) ?_
  refine T_putI dX6_as_2 lf_X6_56 rfl rfl rfl rfl ?_
  refine T_ild1 dX6_as_5 ?_
  refine T_ald0 dX6_as_6 ?_
  refine T_getR (q := nw) dX6_as_7 lf_X6_48 rfl rfl rfl ?_
  refine T_getN dX6_as_10 lf_X6_91 (kT hnw) rfl (by rw [uI_p (by omega)]; exact hg) ?_
  refine T_invS2i (M' := mX6_isBelow) dX6_as_13 ml_X6_64 imX6_isBelow (Nat.le_of_ble_eq_true rfl) rfl (Nat.le_of_ble_eq_true rfl) (c_X6_isBelow (by omega)) ?_
  refine T_ifneB (tgt := 21) dX6_as_16 (by decide) (fun h16 => ?_) (fun h16 => ?_)
  · obtain ⟨k, hk, rfl⟩ := blw_t h16
    have ik : ix (nI k) = k := ix_n (by omega)
    have hW := hWF.g (by omega)
    obtain ⟨w3, w8, wd1, wd6, wso, wb, wbs, wbp, wne, wrn, wgu, wdi, wre⟩ := id hW
    refine T_ild2 dX6_as_21 ?_
    refine T_iconst (v := nI 3) dX6_as_22 (by decide) ?_
    refine T_invS2i (M' := mX6_isBelow) dX6_as_23 ml_X6_64 imX6_isBelow (Nat.le_of_ble_eq_true rfl) rfl (Nat.le_of_ble_eq_true rfl) (c_X6_isBelow (by omega)) ?_
    refine T_ifneB (tgt := 32) dX6_as_26 (by decide) (fun h26 => ?_) (fun h26 => ?_)
    · obtain ⟨m, hm, rfl⟩ := blw_t h26
      have im : ix (nI m) = m := ix_n (by omega)
      have qk := wgu k hk
      refine T_ald0 dX6_as_32 ?_
      refine T_getR (q := nw) dX6_as_33 lf_X6_48 rfl rfl rfl ?_
      refine T_getR (q := nw + 1) dX6_as_36 lf_X6_94 (kT hnw) rfl (rT1 hnw) ?_
      refine T_ild1 dX6_as_39 ?_
      refine T_ialdN dX6_as_40 (kT1 hnw) (by rw [lT1 hnw]; omega) (by rw [uI_p (by omega)]; exact (hgu _ hk).1) ?_
      refine T_ild2 dX6_as_41 ?_
      refine T_cltN (tgt := 49) dX6_as_42 (by decide) (by omega) (by omega) (fun h42 => ?_) (fun h42 => ?_)
      · refine T_ald0 dX6_as_49 ?_
        refine T_iconst (v := nI 2) dX6_as_50 (by decide) ?_
        refine T_invV1i (M' := mX6_broken) dX6_as_51 ml_X6_72 imX6_broken rfl (Nat.le_of_ble_eq_true rfl) rfl (Nat.le_of_ble_eq_true rfl) rfl (Nat.le_of_ble_eq_true rfl) c_X6_broken ?_
        refine T_iret dX6_as_54 rfl ?_
        first
          | (rw [show aAs a (nI k) (nI m) = nI 1 from (if_pos h16).trans ((if_pos h26).trans (if_pos (by rw [ik, im]; omega))), show fAs a (nI k) (nI m) = 0 from if_neg (by rw [ik, im, h16, h26, decide_eq_true (show m ≤ a 5 k by omega)]; decide)]; exact ⟨_, rfl, rfl, fun q hq => uI_p hq, fun k hk => uI_k hk, uI_s⟩)
          | (rw [show aAs a (nI k) (nI m) = -10 - nI 2 from (if_pos h16).trans ((if_pos h26).trans (if_neg (by rw [ik, im]; omega))), show fAs a (nI k) (nI m) = 2 from if_pos (by rw [ik, im, h16, h26, decide_eq_false (show ¬ m ≤ a 5 k by omega)]; rfl)]; exact ⟨_, rfl, rfl, fun q hq => by rw [uI_p hq, uI_p hq], fun k hk => by rw [uI_k hk, uI_k hk], uI_s⟩)
      · refine T_iconst (v := nI 1) dX6_as_45 (by decide) ?_
        refine T_goto (tgt := 54) dX6_as_46 (by decide) ?_
        refine T_iret dX6_as_54 rfl ?_
        first
          | (rw [show aAs a (nI k) (nI m) = nI 1 from (if_pos h16).trans ((if_pos h26).trans (if_pos (by rw [ik, im]; omega))), show fAs a (nI k) (nI m) = 0 from if_neg (by rw [ik, im, h16, h26, decide_eq_true (show m ≤ a 5 k by omega)]; decide)]; exact ⟨_, rfl, rfl, fun q hq => uI_p hq, fun k hk => uI_k hk, uI_s⟩)
          | (rw [show aAs a (nI k) (nI m) = -10 - nI 2 from (if_pos h16).trans ((if_pos h26).trans (if_neg (by rw [ik, im]; omega))), show fAs a (nI k) (nI m) = 2 from if_pos (by rw [ik, im, h16, h26, decide_eq_false (show ¬ m ≤ a 5 k by omega)]; rfl)]; exact ⟨_, rfl, rfl, fun q hq => by rw [uI_p hq, uI_p hq], fun k hk => by rw [uI_k hk, uI_k hk], uI_s⟩)
    · refine T_bipush (v := -2) dX6_as_29 (by decide) ?_
      refine T_iret dX6_as_31 rfl ?_
      rw [show aAs a (nI k) y = -2 from (if_pos h16).trans (if_neg (by simp [h26])), show fAs a (nI k) y = 0 from if_neg (by simp [h16, h26])]; exact ⟨_, rfl, rfl, fun q hq => uI_p hq, fun k hk => uI_k hk, uI_s⟩
  · refine T_iconst (v := -1) dX6_as_19 (by decide) ?_
    refine T_iret dX6_as_20 rfl ?_
    rw [show aAs a x y = -1 from if_neg (by simp [h16]), show fAs a x y = 0 from if_neg (by simp [h16])]; exact ⟨_, rfl, rfl, fun q hq => uI_p hq, fun k hk => uI_k hk, uI_s⟩
theorem le60 {y : Int32} (h1 : y ≤ nI 60) : ¬ nI 60 < y := Int32.not_lt.mpr h1
theorem nle60 {y : Int32} (h1 : ¬ y ≤ nI 60) : nI 60 < y := Int32.not_le.mp h1
set_option maxRecDepth 20000 in
theorem c_X6_sheet {S : Nat → Nat → Int32} {L : Nat → Nat → Int64} {nw sp cd : Nat} {d : Nat} {h : HS} (hH : SHC S h) (hBH : BH h) {x l y : Int32} : TT mX6_sheet (d + 2) 0 [some (.ref 0), some (.int (x)), some (.int (l)), some (.int (y))] [] (S, L, (nw, sp, cd)) (fun r σ' => ∃ S', σ' = (S', L, (nw, sp, cd)) ∧ r = some (.int (aSheet x l y)) ∧ SHC S' (sSheet h x l y) ∧ FS S S' ∧ S' 0 8 = nI (fSheet x l y)) := by
  refine T_ald0 dX6_sheet_0 ?_
  refine T_iconst (v := nI 0) dX6_sheet_1 (by decide) ?_
  refine T_putI dX6_sheet_2 lf_X6_56 rfl rfl rfl rfl ?_
  refine T_ild1 dX6_sheet_5 ?_
  refine T_invS1i (M' := mX6_isSheet) dX6_sheet_6 ml_X6_60 imX6_isSheet (Nat.le_of_ble_eq_true rfl) rfl (Nat.le_of_ble_eq_true rfl) c_X6_isSheet ?_
  refine T_ifneB (tgt := 14) dX6_sheet_9 (by decide) (fun h9 => ?_) (fun h9 => ?_)
  · obtain ⟨j, hj, rfl⟩ := blw_t h9
    have ij : ix (nI j) = j := ix_n (by omega)
    refine T_ild2 dX6_sheet_14 ?_
    refine T_iconst (v := nI 3) dX6_sheet_15 (by decide) ?_
    refine T_invS2i (M' := mX6_isBelow) dX6_sheet_16 ml_X6_64 imX6_isBelow (Nat.le_of_ble_eq_true rfl) rfl (Nat.le_of_ble_eq_true rfl) (c_X6_isBelow (by omega)) ?_
    refine T_ifeqB (tgt := 28) dX6_sheet_19 (by decide) (fun h19 => ?_) (fun h19 => ?_)
    · refine T_bipush (v := -2) dX6_sheet_28 (by decide) ?_
      refine T_iret dX6_sheet_30 rfl ?_
      rw [show aSheet (nI j) l y = -2 from (if_pos h9).trans (if_neg (by first | (simp [h19]; done) | simp [h19, nle60 h25])), show sSheet h (nI j) l y = h from if_neg (by first | (simp [h19]; done) | simp [h19, nle60 h25]), show fSheet (nI j) l y = 0 from if_neg (by first | (simp [h19]; done) | simp [h19, nle60 h25])]; exact ⟨_, rfl, rfl, hH.cong (fun q h1 h2 => uI_p (by omega)), FS_8 FS_r, uI_s⟩
    · refine T_ild3 dX6_sheet_22 ?_
      refine T_bipush (v := nI 60) dX6_sheet_23 (by decide) ?_
      refine T_cle (tgt := 31) dX6_sheet_25 (by decide) (fun h25 => ?_) (fun h25 => ?_)
      · refine T_ild3 dX6_sheet_31 ?_
        refine T_ifge (tgt := 41) dX6_sheet_32 (by decide) (fun h32 => ?_) (fun h32 => ?_)
        · obtain ⟨la, hla, rfl⟩ := blw_t h19
          obtain ⟨n, hn, rfl⟩ := nI_of (Int32.not_lt.mpr h32)
          have hn6 : n ≤ 60 := (nI_leI hn (by decide)).mp h25
          have il : ix (nI la) = la := ix_n (by omega)
          have i_n : ix (nI n) = n := ix_n hn
          refine T_ald0 dX6_sheet_41 ?_
          refine T_getR (q := 1) dX6_sheet_42 lf_X6_13 rfl rfl rfl ?_
          refine T_ild1 dX6_sheet_45 ?_
          refine T_aald dX6_sheet_46 hj rfl ?_
          refine T_ild2 dX6_sheet_47 ?_
          refine T_ild3 dX6_sheet_48 ?_
          refine T_invV2v (M' := mX3_renew) dX6_sheet_49 ml_X6_223 imX3_renew (kS hj) (Nat.le_of_ble_eq_true rfl) rfl (Nat.le_of_ble_eq_true rfl) rfl (Nat.le_of_ble_eq_true rfl) (c_X3_renew hj) ?_
          refine T_iconst (v := nI 1) dX6_sheet_52 (by decide) ?_
          refine T_iret dX6_sheet_53 rfl ?_
          have hy : ¬ nI n < 0 := nI_pos hn
          rw [show aSheet (nI j) (nI la) (nI n) = nI 1 from (if_pos h9).trans ((if_pos (by simp [h19, le60 h25])).trans (if_neg hy)), show sSheet h (nI j) (nI la) (nI n) = (va_up h.1 j true, va_up h.2.1 j la, va_up h.2.2.1 j n, va_up h.2.2.2 j (fun _ => nI 0)) from (if_pos (by simp [h9, h19, le60 h25, hy])).trans (by rw [ij, il, i_n]), show fSheet (nI j) (nI la) (nI n) = 0 from if_neg (by simp [hy])]; refine ⟨_, rfl, rfl, fun k hk => ?_, FS_w (FS_u (FS_u (FS_u (FS_8 FS_r) (by omega) (by omega)) (by omega) (by omega)) (by omega) (by omega)) (by omega) (by omega), ?_⟩
          · by_cases e : k = j
            · subst e
              simp only [va_up, if_true]
              refine ⟨?_, fun _ => ⟨?_, ?_, hn6⟩, fun i hi => wf_i hi⟩
              · rw [wf_p (by omega), uI_k (by decide), uI_k (by decide), uI_s]
              · rw [wf_p (by omega), uI_k (by decide), uI_s]
              · rw [wf_p (by omega), uI_s]
            · simp only [va_up, if_neg e]
              have q := hH k hk
              rw [wf_p (by omega), uI_p (by omega), uI_p (by omega), uI_p (by omega), uI_p (by omega), wf_p (by omega), uI_p (by omega), uI_p (by omega), uI_p (by omega), uI_p (by omega)]
              exact q
          · rw [wf_p (by omega), uI_p (by omega), uI_p (by omega), uI_p (by omega), uI_s]
        · refine T_ald0 dX6_sheet_35 ?_
          refine T_iconst (v := nI 4) dX6_sheet_36 (by decide) ?_
          refine T_invV1i (M' := mX6_broken) dX6_sheet_37 ml_X6_72 imX6_broken rfl (Nat.le_of_ble_eq_true rfl) rfl (Nat.le_of_ble_eq_true rfl) rfl (Nat.le_of_ble_eq_true rfl) c_X6_broken ?_
          refine T_iret dX6_sheet_40 rfl ?_
          have hy : y < 0 := Int32.not_le.mp h32
          rw [show aSheet (nI j) l y = -10 - nI 4 from (if_pos h9).trans ((if_pos (by simp [h19, le60 h25])).trans (if_pos hy)), show sSheet h (nI j) l y = h from if_neg (by simp [hy]), show fSheet (nI j) l y = 4 from if_pos (by simp [h9, h19, le60 h25, hy])]; exact ⟨_, rfl, rfl, (hH.cong (fun q h1 h2 => by rw [uI_p (by omega), uI_p (by omega)])), FS_8 (FS_8 FS_r), uI_s⟩
      · refine T_bipush (v := -2) dX6_sheet_28 (by decide) ?_
        refine T_iret dX6_sheet_30 rfl ?_
        rw [show aSheet (nI j) l y = -2 from (if_pos h9).trans (if_neg (by first | (simp [h19]; done) | simp [h19, nle60 h25])), show sSheet h (nI j) l y = h from if_neg (by first | (simp [h19]; done) | simp [h19, nle60 h25]), show fSheet (nI j) l y = 0 from if_neg (by first | (simp [h19]; done) | simp [h19, nle60 h25])]; exact ⟨_, rfl, rfl, hH.cong (fun q h1 h2 => uI_p (by omega)), FS_8 FS_r, uI_s⟩
  · refine T_iconst (v := -1) dX6_sheet_12 (by decide) ?_
    refine T_iret dX6_sheet_13 rfl ?_
    rw [show aSheet x l y = -1 from if_neg (by simp [h9]), show sSheet h x l y = h from if_neg (by simp [h9]), show fSheet x l y = 0 from if_neg (by simp [h9])]; exact ⟨_, rfl, rfl, hH.cong (fun q h1 h2 => uI_p (by omega)), FS_8 FS_r, uI_s⟩
set_option maxRecDepth 20000 in
theorem c_X6_lose {S : Nat → Nat → Int32} {L : Nat → Nat → Int64} {nw sp cd : Nat} {d : Nat} {h : HS} (hH : SHC S h) (hBH : BH h) {x : Int32} : TT mX6_lose (d + 2) 0 [some (.ref 0), some (.int (x)), none] [] (S, L, (nw, sp, cd)) (fun r σ' => ∃ S', σ' = (S', L, (nw, sp, cd)) ∧ r = some (.int (aLose h x)) ∧ SHC S' (sLose h x) ∧ (∀ q, ¬ (2 ≤ q ∧ q ≤ 9) → S' q = S q)) := by
  refine T_ild1 dX6_lose_0 ?_
  refine T_invS1i (M' := mX6_isSheet) dX6_lose_1 ml_X6_60 imX6_isSheet (Nat.le_of_ble_eq_true rfl) rfl (Nat.le_of_ble_eq_true rfl) c_X6_isSheet ?_
  refine T_ifneB (tgt := 9) dX6_lose_4 (by decide) (fun h4 => ?_) (fun h4 => ?_)
  · obtain ⟨j, hj, rfl⟩ := blw_t h4
    have ij : ix (nI j) = j := ix_n (by omega)
    refine T_ald0 dX6_lose_9 ?_
    refine T_getR (q := 1) dX6_lose_10 lf_X6_13 rfl rfl rfl ?_
    refine T_ild1 dX6_lose_13 ?_
    refine T_aald dX6_lose_14 hj rfl ?_
    refine T_getV dX6_lose_15 lf_X6_227 (kS hj) rfl (hH j hj).1 ?_
    refine T_ifeqB (tgt := 25) dX6_lose_18 (by decide) (fun h18 => ?_) (fun h18 => ?_)
    · refine T_iconst (v := nI 0) dX6_lose_25 (by decide) ?_
      refine T_ist2 dX6_lose_26 (by decide) rfl ?_
      refine T_ald0 dX6_lose_27 ?_
      refine T_getR (q := 1) dX6_lose_28 lf_X6_13 rfl rfl rfl ?_
      refine T_ild1 dX6_lose_31 ?_
      refine T_aald dX6_lose_32 hj rfl ?_
      refine T_iconst (v := bI false) dX6_lose_33 (by decide) ?_
      refine T_putZ dX6_lose_34 lf_X6_227 (kS hj) rfl rfl rfl (by decide) ?_
      refine T_ild2 dX6_lose_37 ?_
      refine T_iret dX6_lose_38 rfl ?_
      rw [show sLose h (nI j) = (va_up h.1 j false, h.2) from (if_pos h4).trans (by rw [ij])]
      refine ⟨_, rfl, ?_, fun k hk => ?_, fun q hq => uI_p (by omega)⟩
      · first | (rw [show aLose h (nI j) = nI 1 from (if_pos h4).trans (if_pos (by rw [ij]; exact h18))]; done) | (rw [show aLose h (nI j) = nI 0 from (if_pos h4).trans (if_neg (by rw [ij, h18]; decide))]; done)
      · by_cases e : k = j
        · subst e
          simp only [va_up, if_true]
          exact ⟨uI_s, fun q => (nomatch q), fun i hi => by rw [uI_p (by omega)]; exact (hH k hk).2.2 i hi⟩
        · simp only [va_up, if_neg e]
          rw [uI_p (by omega), uI_p (by omega)]
          exact hH k hk
    · refine T_iconst (v := nI 1) dX6_lose_21 (by decide) ?_
      refine T_goto (tgt := 26) dX6_lose_22 (by decide) ?_
      refine T_ist2 dX6_lose_26 (by decide) rfl ?_
      refine T_ald0 dX6_lose_27 ?_
      refine T_getR (q := 1) dX6_lose_28 lf_X6_13 rfl rfl rfl ?_
      refine T_ild1 dX6_lose_31 ?_
      refine T_aald dX6_lose_32 hj rfl ?_
      refine T_iconst (v := bI false) dX6_lose_33 (by decide) ?_
      refine T_putZ dX6_lose_34 lf_X6_227 (kS hj) rfl rfl rfl (by decide) ?_
      refine T_ild2 dX6_lose_37 ?_
      refine T_iret dX6_lose_38 rfl ?_
      rw [show sLose h (nI j) = (va_up h.1 j false, h.2) from (if_pos h4).trans (by rw [ij])]
      refine ⟨_, rfl, ?_, fun k hk => ?_, fun q hq => uI_p (by omega)⟩
      · first | (rw [show aLose h (nI j) = nI 1 from (if_pos h4).trans (if_pos (by rw [ij]; exact h18))]; done) | (rw [show aLose h (nI j) = nI 0 from (if_pos h4).trans (if_neg (by rw [ij, h18]; decide))]; done)
      · by_cases e : k = j
        · subst e
          simp only [va_up, if_true]
          exact ⟨uI_s, fun q => (nomatch q), fun i hi => by rw [uI_p (by omega)]; exact (hH k hk).2.2 i hi⟩
        · simp only [va_up, if_neg e]
          rw [uI_p (by omega), uI_p (by omega)]
          exact hH k hk
  · refine T_iconst (v := -1) dX6_lose_7 (by decide) ?_
    refine T_iret dX6_lose_8 rfl ?_
    rw [show aLose h x = -1 from if_neg (by simp [h4]), show sLose h x = h from if_neg (by simp [h4])]; exact ⟨_, rfl, rfl, hH, fun _ _ => rfl⟩
