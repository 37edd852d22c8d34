/-! the first world -/
def S0 : Nat → Nat → Int32 := fun p => if p = 38 then upd (upd (upd (upd (fun _ => 0) 0 (-9)) 1 (-9)) 2 (-9)) 3 (-9) else fun _ => 0
def sg0 : SG := (S0, fun _ _ => 0, (19, 28, 11))
def adF (x0 m0 : Nat) (q q7 : Nat → Nat) : Nat → Nat := fun k => if k = 0 then x0 else if k = 37 then m0 else if k < 37 then q k else q7 (k - 38)
theorem S0_z {p k : Nat} (h : p ≠ 38) : S0 p k = 0 := by unfold S0; rw [if_neg h]
theorem nI_00 : (0 : Int32) = nI 0 := rfl
theorem inv0 : INV sg0 := by
  refine ⟨fun _ _ => 0, (fun _ => false, fun _ => 0, fun _ => 0, fun _ _ => 0), 0, 0, Or.inr ⟨rfl, rfl, rfl, rfl, rfl⟩, fun j _ h => (nomatch h), Or.inl ⟨rfl, rfl⟩, ⟨⟨?_, ?_, ?_, ?_, ?_, fun i hi => absurd hi (Nat.not_lt_zero i), fun i hi => absurd hi (Nat.not_lt_zero i), fun i hi => absurd hi (Nat.not_lt_zero i)⟩, fun j hj => ⟨?_, fun h => (nomatch h), fun i hi => ?_⟩, ?_, ?_⟩, ⟨?_, ?_, ?_, ?_, ?_, ?_, fun i hi => absurd hi (Nat.not_lt_zero i), fun i hi => absurd hi (Nat.not_lt_zero i), fun i hi => absurd hi (Nat.not_lt_zero i)⟩, fun j hj => ⟨?_, fun h => (nomatch h), fun i hi => ?_⟩, ?_, ?_⟩
  all_goals first
    | rfl
    | exact S0_z (by decide)
    | exact S0_z (by omega)
    | skip
  show S0 38 j = -9
  match j, hj with
  | 0, _ => rfl
  | 1, _ => rfl
  | 2, _ => rfl
  | 3, _ => rfl
  | j + 4, hj => exact absurd hj (by omega)
section START
variable {x0 m0 : Nat} {q q7 : Nat → Nat} {cI cJ cO : ClassId}
theorem w_key : ∀ k, k < 57 → ∃ e, (shX6 cI cJ cO x0 q ++ shX7 cI cJ m0 q7)[k]? = some (adF x0 m0 q q7 k, e) := by
  intro k hk
  match k, hk with
  | 0, _ => exact ⟨_, rfl⟩
  | 1, _ => exact ⟨_, rfl⟩
  | 2, _ => exact ⟨_, rfl⟩
  | 3, _ => exact ⟨_, rfl⟩
  | 4, _ => exact ⟨_, rfl⟩
  | 5, _ => exact ⟨_, rfl⟩
  | 6, _ => exact ⟨_, rfl⟩
  | 7, _ => exact ⟨_, rfl⟩
  | 8, _ => exact ⟨_, rfl⟩
  | 9, _ => exact ⟨_, rfl⟩
  | 10, _ => exact ⟨_, rfl⟩
  | 11, _ => exact ⟨_, rfl⟩
  | 12, _ => exact ⟨_, rfl⟩
  | 13, _ => exact ⟨_, rfl⟩
  | 14, _ => exact ⟨_, rfl⟩
  | 15, _ => exact ⟨_, rfl⟩
  | 16, _ => exact ⟨_, rfl⟩
  | 17, _ => exact ⟨_, rfl⟩
  | 18, _ => exact ⟨_, rfl⟩
  | 19, _ => exact ⟨_, rfl⟩
  | 20, _ => exact ⟨_, rfl⟩
  | 21, _ => exact ⟨_, rfl⟩
  | 22, _ => exact ⟨_, rfl⟩
  | 23, _ => exact ⟨_, rfl⟩
  | 24, _ => exact ⟨_, rfl⟩
  | 25, _ => exact ⟨_, rfl⟩
  | 26, _ => exact ⟨_, rfl⟩
  | 27, _ => exact ⟨_, rfl⟩
  | 28, _ => exact ⟨_, rfl⟩
  | 29, _ => exact ⟨_, rfl⟩
  | 30, _ => exact ⟨_, rfl⟩
  | 31, _ => exact ⟨_, rfl⟩
  | 32, _ => exact ⟨_, rfl⟩
  | 33, _ => exact ⟨_, rfl⟩
  | 34, _ => exact ⟨_, rfl⟩
  | 35, _ => exact ⟨_, rfl⟩
  | 36, _ => exact ⟨_, rfl⟩
  | 37, _ => exact ⟨_, rfl⟩
  | 38, _ => exact ⟨_, rfl⟩
  | 39, _ => exact ⟨_, rfl⟩
  | 40, _ => exact ⟨_, rfl⟩
  | 41, _ => exact ⟨_, rfl⟩
  | 42, _ => exact ⟨_, rfl⟩
  | 43, _ => exact ⟨_, rfl⟩
  | 44, _ => exact ⟨_, rfl⟩
  | 45, _ => exact ⟨_, rfl⟩
  | 46, _ => exact ⟨_, rfl⟩
  | 47, _ => exact ⟨_, rfl⟩
  | 48, _ => exact ⟨_, rfl⟩
  | 49, _ => exact ⟨_, rfl⟩
  | 50, _ => exact ⟨_, rfl⟩
  | 51, _ => exact ⟨_, rfl⟩
  | 52, _ => exact ⟨_, rfl⟩
  | 53, _ => exact ⟨_, rfl⟩
  | 54, _ => exact ⟨_, rfl⟩
  | 55, _ => exact ⟨_, rfl⟩
  | 56, _ => exact ⟨_, rfl⟩
  | k + 57, hk => exact absurd hk (by omega)
theorem w_inj {A : Nat → Prop} (hD : va_D A (shX6 cI cJ cO x0 q ++ shX7 cI cJ m0 q7)) : inj57 (adF x0 m0 q q7) := by
  intro i j hi hj e
  obtain ⟨e1, h1⟩ := w_key (x0 := x0) (m0 := m0) (q := q) (q7 := q7) (cI := cI) (cJ := cJ) (cO := cO) i hi
  obtain ⟨e2, h2⟩ := w_key (x0 := x0) (m0 := m0) (q := q) (q7 := q7) (cI := cI) (cJ := cJ) (cO := cO) j hj
  exact hD.1 i j _ _ h1 h2 e
theorem w_in {A : Nat → Prop} (hD : va_D A (shX6 cI cJ cO x0 q ++ shX7 cI cJ m0 q7)) : ∀ z, AD (adF x0 m0 q q7) z → A z := by
  rintro z ⟨k, hk, rfl⟩
  obtain ⟨e1, h1⟩ := w_key (x0 := x0) (m0 := m0) (q := q) (q7 := q7) (cI := cI) (cJ := cJ) (cO := cO) k hk
  exact hD.2 k _ h1
set_option maxRecDepth 100000 in
theorem w_at {G : va_G} {H : Heap} (hP : va_P G vwCl (shX6 cI cJ cO x0 q ++ shX7 cI cJ m0 q7) H) : va_P G vwCl (wl (adF x0 m0 q q7) cI cJ cO sg0) H := by
  intro k x hx
  have hk : k < 57 := by
    have := (List.getElem?_eq_some_iff.mp hx).1
    simpa [wl] using this
  rw [wl_get hk] at hx
  cases hx
  match k, hk with
  | 1, _ =>
    have h : H[q 1]? = some (vp_cell cO (4, .inr (.inr (.inr (.inr (va_up (va_up (va_up (va_up (fun _ => none) 0 (some (q 2))) 1 (some (q 3))) 2 (some (q 4))) 3 (some (q 5)))))))) := hP 1 _ rfl
    show H[q 1]? = some (vp_cell cO (4, .inr (.inr (.inr (.inr (fun i => some (adF x0 m0 q q7 (2 + i))))))))
    rw [h, vp_cell_q, vp_cell_q]
    unfold arrV
    congr 2
  | 0, _ => exact hP 0 _ rfl
  | 2, _ => exact hP 2 _ rfl
  | 3, _ => exact hP 3 _ rfl
  | 4, _ => exact hP 4 _ rfl
  | 5, _ => exact hP 5 _ rfl
  | 6, _ => exact hP 6 _ rfl
  | 7, _ => exact hP 7 _ rfl
  | 8, _ => exact hP 8 _ rfl
  | 9, _ => exact hP 9 _ rfl
  | 10, _ => exact hP 10 _ rfl
  | 11, _ => exact hP 11 _ rfl
  | 12, _ => exact hP 12 _ rfl
  | 13, _ => exact hP 13 _ rfl
  | 14, _ => exact hP 14 _ rfl
  | 15, _ => exact hP 15 _ rfl
  | 16, _ => exact hP 16 _ rfl
  | 17, _ => exact hP 17 _ rfl
  | 18, _ => exact hP 18 _ rfl
  | 19, _ => exact hP 19 _ rfl
  | 20, _ => exact hP 20 _ rfl
  | 21, _ => exact hP 21 _ rfl
  | 22, _ => exact hP 22 _ rfl
  | 23, _ => exact hP 23 _ rfl
  | 24, _ => exact hP 24 _ rfl
  | 25, _ => exact hP 25 _ rfl
  | 26, _ => exact hP 26 _ rfl
  | 27, _ => exact hP 27 _ rfl
  | 28, _ => exact hP 28 _ rfl
  | 29, _ => exact hP 29 _ rfl
  | 30, _ => exact hP 30 _ rfl
  | 31, _ => exact hP 31 _ rfl
  | 32, _ => exact hP 32 _ rfl
  | 33, _ => exact hP 33 _ rfl
  | 34, _ => exact hP 34 _ rfl
  | 35, _ => exact hP 35 _ rfl
  | 36, _ => exact hP 36 _ rfl
  | 37, _ => exact hP 37 _ rfl
  | 38, _ => exact hP 38 _ rfl
  | 39, _ => exact hP 39 _ rfl
  | 40, _ => exact hP 40 _ rfl
  | 41, _ => exact hP 41 _ rfl
  | 42, _ => exact hP 42 _ rfl
  | 43, _ => exact hP 43 _ rfl
  | 44, _ => exact hP 44 _ rfl
  | 45, _ => exact hP 45 _ rfl
  | 46, _ => exact hP 46 _ rfl
  | 47, _ => exact hP 47 _ rfl
  | 48, _ => exact hP 48 _ rfl
  | 49, _ => exact hP 49 _ rfl
  | 50, _ => exact hP 50 _ rfl
  | 51, _ => exact hP 51 _ rfl
  | 52, _ => exact hP 52 _ rfl
  | 53, _ => exact hP 53 _ rfl
  | 54, _ => exact hP 54 _ rfl
  | 55, _ => exact hP 55 _ rfl
  | 56, _ => exact hP 56 _ rfl
  | k + 57, hk => exact absurd hk (by omega)
end START
