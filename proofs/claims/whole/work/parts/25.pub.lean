/-! SaltBorder's public methods, the plain ones -/
def ix (x : Int32) : Nat := x.toNatClampNeg
theorem ix_n {k : Nat} (h : k < 2 ^ 31) : ix (nI k) = k := nI_clamp h
def setA (a : Nat → Nat → Nat) (c i v : Nat) : Nat → Nat → Nat := fun c' i' => if c' = c then (if i' = i then v else a c' i') else a c' i'
theorem setA_c {a : Nat → Nat → Nat} {c i v c' : Nat} (h : c' ≠ c) : setA a c i v c' = a c' := by funext k; simp [setA, h]
theorem setA_s {a : Nat → Nat → Nat} {c i v : Nat} : setA a c i v c i = v := by simp [setA]
theorem setA_i {a : Nat → Nat → Nat} {c i v i' : Nat} (h : i' ≠ i) : setA a c i v c i' = a c i' := by simp [setA, h]
def ZA (a : Nat → Nat → Nat) : Prop := a 0 0 = 0 ∧ a 1 0 = 0 ∧ a 2 0 = 0 ∧ a 3 0 = 0 ∧ a 4 0 = 0
def WFA (a : Nat → Nat → Nat) : Prop := WL a ∨ ZA a
theorem WFA.g {a : Nat → Nat → Nat} (h : WFA a) (q : 0 < a 0 0) : WL a := h.elim id (fun z => absurd z.1 (by omega))
theorem WFA.d {a : Nat → Nat → Nat} (h : WFA a) (q : 0 < a 1 0) : WL a := h.elim id (fun z => absurd z.2.1 (by omega))
theorem WFA.b {a : Nat → Nat → Nat} (h : WFA a) : a 0 0 ≤ 8 ∧ a 1 0 ≤ 6 ∧ a 2 0 ≤ 3 ∧ a 3 0 < 64 ∧ a 4 0 ≤ 8 := by
  rcases h with h | h
  · exact ⟨h.2.1, h.2.2.2.1, h.2.2.2.2.1, h.2.2.2.2.2.1, h.2.2.2.2.2.2.2.2.2.1⟩
  · obtain ⟨h1, h2, h3, h4, h5⟩ := h; omega
/-- the model's places, the sheets, the trace and the fault stay -/
def FC (S S' : Nat → Nat → Int32) : Prop := (∀ q, (2 ≤ q ∧ q ≤ 9) ∨ 37 ≤ q → S' q = S q) ∧ S' 0 7 = S 0 7 ∧ S' 0 8 = S 0 8
theorem FC_r {S : Nat → Nat → Int32} : FC S S := ⟨fun _ _ => rfl, rfl, rfl⟩
theorem FC_u {S S' : Nat → Nat → Int32} {q k : Nat} {x : Int32} (h : FC S S') (h1 : 10 ≤ q) (h2 : q < 37) : FC S (uI S' q k x) :=
  ⟨fun z hz => by rw [uI_p (by omega)]; exact h.1 z hz, by rw [uI_p (by omega)]; exact h.2.1, by rw [uI_p (by omega)]; exact h.2.2⟩
def aGuest (a : Nat → Nat → Nat) (x w : Int32) : Int32 := if blw x (a 0 0) then (if w = nI 0 then nI (a 5 (ix x)) else if w = nI 1 then nI (a 6 (ix x)) else if w = nI 2 then nI (a 7 (ix x)) else if w = nI 3 then nI (miN a (ix x)) else -2) else -1
def aDish (a : Nat → Nat → Nat) (x w : Int32) : Int32 := if blw x (a 1 0) then (if w = nI 0 then nI (a 8 (ix x)) else if w = nI 1 then nI (a 9 (ix x)) else if w = nI 2 then who (a 0 0) (a 8 (ix x)) (a 3 0 / 8) (a 3 0 % 8) else -2) else -1
def aWhose (a : Nat → Nat → Nat) (x : Int32) : Int32 := if blw x (a 0 0) then who (a 0 0) (ix x) (a 3 0 / 8) (a 3 0 % 8) else -1
def aLand (a : Nat → Nat → Nat) (x : Int32) : Int32 := if blw x 2 then (if a 0 0 = 0 then -3 else nI (land a (ix x) (a 3 0))) else -1
def aChew (a : Nat → Nat → Nat) (x v : Int32) : Int32 := if blw x (a 0 0) then (if blw v 10 then nI (a 6 (ix x)) else -2) else -1
def sChew (a : Nat → Nat → Nat) (x v : Int32) : Nat → Nat → Nat := if blw x (a 0 0) && blw v 10 then setA a 6 (ix x) (ix v) else a
def aCook (a : Nat → Nat → Nat) (v : Int32) : Int32 := if blw v 4 then (if a 0 0 = 0 then -3 else nI (a 2 0)) else -2
def sCook (a : Nat → Nat → Nat) (v : Int32) : Nat → Nat → Nat := if blw v 4 && !decide (a 0 0 = 0) then setA a 2 0 (ix v) else a
def aRate (a : Nat → Nat → Nat) (x v : Int32) : Int32 := if blw x (a 1 0) then (if blw v 10 then nI (a 9 (ix x)) else -2) else -1
def sRate (a : Nat → Nat → Nat) (x v : Int32) : Nat → Nat → Nat := if blw x (a 1 0) && blw v 10 then setA a 9 (ix x) (ix v) else a
def aCarry (a : Nat → Nat → Nat) (x v : Int32) : Int32 := if blw x (a 1 0) && blw v (a 0 0) then nI (a 8 (ix x)) else -1
def sCarry (a : Nat → Nat → Nat) (x v : Int32) : Nat → Nat → Nat := if blw x (a 1 0) && blw v (a 0 0) then setA a 8 (ix x) (ix v) else a
def aPass (a : Nat → Nat → Nat) (x : Int32) : Int32 := if blw x 4 then (if a 0 0 = 0 then -3 else match beh (a 0 0) (a 3 0) (ix x) with
  | none => -3
  | some _ => nI (miN a (stand (a 3 0) (ix x)))) else -2
def sPass (a : Nat → Nat → Nat) (x : Int32) : Nat → Nat → Nat := if blw x 4 && !decide (a 0 0 = 0) then (match beh (a 0 0) (a 3 0) (ix x) with
  | none => a
  | some b => setA a 3 0 b) else a
def aReading (a : Nat → Nat → Nat) (x v : Int32) : Int32 := if blw x (a 0 0) then (if blw v 20 then (if a 4 0 < 8 then nI (a 4 0) else -4) else -2) else -1
def sReading (a : Nat → Nat → Nat) (x v : Int32) : Nat → Nat → Nat := if blw x (a 0 0) && blw v 20 && decide (a 4 0 < 8) then setA (setA (setA a 10 (a 4 0) (ix x)) 11 (a 4 0) (ix v)) 4 0 (a 4 0 + 1) else a
def aBack (a : Nat → Nat → Nat) (x : Int32) : Int32 := if blw x (a 4 0 + 1) then nI (a 4 0 - ix x) else -2
def sBack (a : Nat → Nat → Nat) (x : Int32) : Nat → Nat → Nat := if blw x (a 4 0 + 1) then setA a 4 0 (a 4 0 - ix x) else a
def aMouths (a : Nat → Nat → Nat) (x : Int32) : Int32 := if blw x (a 0 0) then wsI (fun v => allN (rso a (ix x) (a 5 (ix x)) v (a 2 0)) (a 4 0)) 10 else -1
def aKinds (a : Nat → Nat → Nat) (x : Int32) : Int32 := if blw x (a 0 0) then wsI (fun v => allN (rso a (ix x) v (a 6 (ix x)) (a 2 0)) (a 4 0)) 3 else -1
def aSoups (a : Nat → Nat → Nat) : Int32 := if a 0 0 = 0 then -3 else wsI (fun v => allN (rso a 0 (a 5 0) (a 6 0) v) (a 4 0)) 4
def aMany (a : Nat → Nat → Nat) (w : Int32) : Int32 := if w = nI 0 then nI (a 0 0) else if w = nI 1 then nI (a 1 0) else if w = nI 2 then nI (a 2 0) else if w = nI 3 then nI (a 3 0 / 8) else if w = nI 4 then nI (a 3 0 % 8) else if w = nI 5 then nI (a 4 0) else -2
def aSpilt (a : Nat → Nat → Nat) (x : Int32) : Int32 := if a 0 0 = 0 then -3 else if blw x (2 ^ a 0 0) then oI (bsN (fun sp => wal (wetV a) sp (a 0 0)) x (2 ^ a 0 0)) else -2
def aGame (a : Nat → Nat → Nat) (x n w : Int32) : Int32 := if blw x 2 then (if blw n 5 && !blw n 1 && blw w 2 then (if a 0 0 = 0 then -3 else if w = nI 0 then nI 100 + zI (GM a (ix n) (ix x) (a 3 0)) else nI (arx (MB a (ix n - 1) (ix x) (a 3 0)) 3)) else -2) else -1
theorem TV_mouth {S : Nat → Nat → Int32} {T : Nat} {a : Nat → Nat → Nat} {k m : Nat} (hV : TV S T a) : TV (uI S (T + 2) k (nI m)) T (setA a 6 k m) := by
  obtain ⟨hg, hdn, hso, hbd, hrn, hgu, hdi, hre⟩ := hV
  refine ⟨?_, ?_, ?_, ?_, ?_, fun i hi => ?_, fun i hi => ?_, fun i hi => ?_⟩
  all_goals first | (rw [uI_p (by omega), setA_c (by decide)]; assumption) | skip
  · rw [setA_c (by decide)] at hi
    have q := hgu i hi
    rw [uI_p (by omega), uI_p (a := T + 3) (by omega), setA_c (c' := 5) (by decide), setA_c (c' := 7) (by decide)]
    refine ⟨q.1, ?_, q.2.2⟩
    by_cases e : i = k
    · rw [e, uI_s, setA_s]
    · rw [uI_k e, setA_i e]; exact q.2.1
  · rw [setA_c (by decide)] at hi
    rw [uI_p (by omega), uI_p (by omega), setA_c (by decide), setA_c (by decide)]; exact hdi i hi
  · rw [setA_c (by decide)] at hi
    rw [uI_p (by omega), uI_p (by omega), setA_c (by decide), setA_c (by decide)]; exact hre i hi
theorem TV_worth {S : Nat → Nat → Int32} {T : Nat} {a : Nat → Nat → Nat} {k m : Nat} (hV : TV S T a) : TV (uI S (T + 6) k (nI m)) T (setA a 9 k m) := by
  obtain ⟨hg, hdn, hso, hbd, hrn, hgu, hdi, hre⟩ := hV
  refine ⟨?_, ?_, ?_, ?_, ?_, fun i hi => ?_, fun i hi => ?_, fun i hi => ?_⟩
  all_goals first | (rw [uI_p (by omega), setA_c (by decide)]; assumption) | skip
  · rw [setA_c (by decide)] at hi
    rw [uI_p (by omega), uI_p (by omega), uI_p (by omega), setA_c (by decide), setA_c (by decide), setA_c (by decide)]; exact hgu i hi
  · rw [setA_c (by decide)] at hi
    have q := hdi i hi
    rw [uI_p (by omega), setA_c (c' := 8) (by decide)]
    refine ⟨q.1, ?_⟩
    by_cases e : i = k
    · rw [e, uI_s, setA_s]
    · rw [uI_k e, setA_i e]; exact q.2
  · rw [setA_c (by decide)] at hi
    rw [uI_p (by omega), uI_p (by omega), setA_c (by decide), setA_c (by decide)]; exact hre i hi
theorem TV_seat {S : Nat → Nat → Int32} {T : Nat} {a : Nat → Nat → Nat} {k m : Nat} (hV : TV S T a) : TV (uI S (T + 5) k (nI m)) T (setA a 8 k m) := by
  obtain ⟨hg, hdn, hso, hbd, hrn, hgu, hdi, hre⟩ := hV
  refine ⟨?_, ?_, ?_, ?_, ?_, fun i hi => ?_, fun i hi => ?_, fun i hi => ?_⟩
  all_goals first | (rw [uI_p (by omega), setA_c (by decide)]; assumption) | skip
  · rw [setA_c (by decide)] at hi
    rw [uI_p (by omega), uI_p (by omega), uI_p (by omega), setA_c (by decide), setA_c (by decide), setA_c (by decide)]; exact hgu i hi
  · rw [setA_c (by decide)] at hi
    have q := hdi i hi
    rw [uI_p (a := T + 6) (by omega), setA_c (c' := 9) (by decide)]
    refine ⟨?_, q.2⟩
    by_cases e : i = k
    · rw [e, uI_s, setA_s]
    · rw [uI_k e, setA_i e]; exact q.1
  · rw [setA_c (by decide)] at hi
    rw [uI_p (by omega), uI_p (by omega), setA_c (by decide), setA_c (by decide)]; exact hre i hi
/-- one number of the table itself: column c at slot s -/
theorem TV_num {S : Nat → Nat → Int32} {T : Nat} {a : Nat → Nat → Nat} {c s m : Nat} (hcs : c = 2 ∧ s = 10 ∨ c = 3 ∧ s = 11) (hV : TV S T a) : TV (uI S T s (nI m)) T (setA a c 0 m) := by
  obtain ⟨hg, hdn, hso, hbd, hrn, hgu, hdi, hre⟩ := hV
  rcases hcs with ⟨rfl, rfl⟩ | ⟨rfl, rfl⟩ <;> refine ⟨?_, ?_, ?_, ?_, ?_, fun i hi => ?_, fun i hi => ?_, fun i hi => ?_⟩
  all_goals first
    | (rw [uI_s, setA_s]; done)
    | (rw [uI_k (by decide), setA_c (by decide)]; assumption)
    | (rw [setA_c (by decide)] at hi; rw [uI_p (by omega), uI_p (by omega), uI_p (by omega), setA_c (by decide), setA_c (by decide), setA_c (by decide)]; exact hgu i hi)
    | (rw [setA_c (by decide)] at hi; rw [uI_p (by omega), uI_p (by omega), setA_c (by decide), setA_c (by decide)]; exact hdi i hi)
    | (rw [setA_c (by decide)] at hi; rw [uI_p (by omega), uI_p (by omega), setA_c (by decide), setA_c (by decide)]; exact hre i hi)
theorem TV_back {S : Nat → Nat → Int32} {T : Nat} {a : Nat → Nat → Nat} {m : Nat} (hm : m ≤ a 4 0) (hV : TV S T a) : TV (uI S T 12 (nI m)) T (setA a 4 0 m) := by
  obtain ⟨hg, hdn, hso, hbd, hrn, hgu, hdi, hre⟩ := hV
  refine ⟨?_, ?_, ?_, ?_, ?_, fun i hi => ?_, fun i hi => ?_, fun i hi => ?_⟩
  all_goals first
    | (rw [uI_s, setA_s]; done)
    | (rw [uI_k (by decide), setA_c (by decide)]; assumption)
    | (rw [setA_c (by decide)] at hi; rw [uI_p (by omega), uI_p (by omega), uI_p (by omega), setA_c (by decide), setA_c (by decide), setA_c (by decide)]; exact hgu i hi)
    | (rw [setA_c (by decide)] at hi; rw [uI_p (by omega), uI_p (by omega), setA_c (by decide), setA_c (by decide)]; exact hdi i hi)
    | (rw [setA_s] at hi; rw [uI_p (by omega), uI_p (by omega), setA_c (by decide), setA_c (by decide)]; exact hre i (by omega))
theorem TV_read {S : Nat → Nat → Int32} {T : Nat} {a : Nat → Nat → Nat} {k v : Nat} (hV : TV S T a) : TV (uI (uI (uI S (T + 7) (a 4 0) (nI k)) (T + 8) (a 4 0) (nI v)) T 12 (nI (a 4 0 + 1))) T (setA (setA (setA a 10 (a 4 0) k) 11 (a 4 0) v) 4 0 (a 4 0 + 1)) := by
  obtain ⟨hg, hdn, hso, hbd, hrn, hgu, hdi, hre⟩ := hV
  refine ⟨?_, ?_, ?_, ?_, ?_, fun i hi => ?_, fun i hi => ?_, fun i hi => ?_⟩
  all_goals first
    | (rw [uI_s, setA_s]; done)
    | (rw [uI_k (by decide), uI_p (by omega), uI_p (by omega), setA_c (by decide), setA_c (by decide), setA_c (by decide)]; assumption)
    | skip
  · rw [setA_c (by decide), setA_c (by decide), setA_c (by decide)] at hi
    have q := hgu i hi
    refine ⟨?_, ?_, ?_⟩ <;> rw [uI_p (by omega), uI_p (by omega), uI_p (by omega), setA_c (by decide), setA_c (by decide), setA_c (by decide)]
    · exact q.1
    · exact q.2.1
    · exact q.2.2
  · rw [setA_c (by decide), setA_c (by decide), setA_c (by decide)] at hi
    have q := hdi i hi
    refine ⟨?_, ?_⟩ <;> rw [uI_p (by omega), uI_p (by omega), uI_p (by omega), setA_c (by decide), setA_c (by decide), setA_c (by decide)]
    · exact q.1
    · exact q.2
  · rw [setA_s] at hi
    refine ⟨?_, ?_⟩
    · rw [uI_p (by omega), uI_p (by omega), setA_c (by decide), setA_c (by decide)]
      by_cases e : i = a 4 0
      · rw [e, uI_s, setA_s]
      · rw [uI_k e, setA_i e]; exact (hre i (by omega)).1
    · rw [uI_p (by omega), setA_c (by decide)]
      by_cases e : i = a 4 0
      · rw [e, uI_s, setA_s]
      · rw [uI_k e, setA_i e, uI_p (by omega), setA_c (by decide)]; exact (hre i (by omega)).2
