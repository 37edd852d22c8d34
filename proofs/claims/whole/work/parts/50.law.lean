/-! THE CLAIM OUT OF ONE WALK OF THE LAW'S BODY. Your part is whole_start (and what it stands on); all else here is the same for every law, but numbers. -/
def R_law : String := "SaltBorderLaw"
def lw_P (b : Addr) (xs : List Int32) (args : Array Value) (s : State) : Prop := args = #[.ref b] ∧ s.IntsAt b xs ∧ xs.length ≤ 384 ∧ (Jvm.Cond.and given_1 narrow_1).before args s = true
def lw_Q (_ : Array Value) (s : State) (o : Outcome) (t : State) : Prop := o = .returned (some (.int 1)) ∧ Framed s o t [] 600000 7302250
def lw_Z (below : List Frame) (a : Array Value) (s : State) : State → Prop := fun t => ∃ o, t.status = .running ∧ Ended t below o ∧ lw_Q a s o t
/-- the law's own end, with 1 on the stack, nothing written that was there before, its room as the claim has it -/
theorem lw_ret {p : Program} {l : Launch} {e : Env} {s : State} {m : MethodId} {below : List Frame} {meth : Method} {c : Code} {b : Nat} (hx : p.tables.exec = Jvm.exec) (hb : c.code = code) (hr : meth.sig.returnType = ret) (hlocks : meth.locks = false) {pc : Nat} {H : Heap} {ls : Array Slot} (hdg : decode code pc = .ok (.ireturn, 1)) : W p l e room_1 s m #[Value.ref b] below meth c H [] 600000 7302250 (lw_Z below #[Value.ref b] s) (F0 m pc ls [.int 1]) := by
  intro T hT X
  obtain ⟨fs, hret, hrun, hended, hW, hframe⟩ := X.leave (v := some (.int 1)) (hlocks := hlocks) (fun h => by rw [hr] at h; cases h)
  have hmeth' : T.vm.method? m = some meth := X.method'
  refine ⟨T.setFrames fs, ?_, .returned (some (.int 1)), hrun, hended, rfl, ⟨_, rfl⟩, hW, hframe⟩
  jvm_step X.here [X.here.top, hx, hb, hdg, hmeth', hr, ret, narrow_b1]
  (try refine ⟨rfl, ?_⟩); (try refine ⟨rfl, ?_⟩)
  first | (intro acts; rw [hret _ acts rfl rfl rfl]) | rw [hret _ _ rfl rfl rfl]
  exact Steps.refl _
/-- what holds at the law's entry: the machine, the code, the tables' words (any of lw_tbl by 'hts w (by decide +kernel)'), the script of L ints xs at the cell b, what the Statement gives of the start (any of its parts by flat_of_before) -/
def lw_At (p : Program) (s : State) (m : MethodId) (meth : Method) (c : Code) (b L : Nat) (xs : Nat → Int32) : Prop :=
  p.tables.exec = Jvm.exec ∧ c.code = code ∧ meth.sig.returnType = ret ∧ c.maxLocals = 4 ∧ s.vm.findClass R_law = some m.cls ∧ (∀ w ∈ lw_tbl, w.before #[Value.ref b] s = true) ∧ va_X b L xs s s.heap ∧ b < s.heap.size ∧ meth.locks = false ∧ (Jvm.Cond.and given_1 narrow_1).before #[Value.ref b] s = true
def tgL : List Nat := [180, 233, 266, 299, 322, 345, 378, 401, 434, 467, 490, 553, 596, 619, 662, 685, 709, 742, 765, 788, 811, 824, 878, 921, 944, 987, 1031, 1094, 1117, 1140, 1173, 1186, 1199]
theorem tgL_ok : ∀ j, j < 33 → (#[147, 200, 233, 266, 289, 312, 345, 368, 401, 434, 457, 520, 563, 586, 629, 652, 676, 709, 732, 755, 778, 791, 845, 888, 911, 954, 998, 1061, 1084, 1107, 1140, 1153, 1166] : Array Int)[j]? = some ((tgL.getD j 0 : Int) - 33) := by decide +kernel
/-- what the law stands on -/
def LC (p : Program) (s : State) (m : MethodId) (meth : Method) (c : Code) (b L : Nat) (xs : Nat → Int32) (G : va_G) (ad : Nat → Nat) (cI cJ cO : ClassId) : Prop := lw_At p s m meth c b L xs ∧ va_K G vwCl (tysW cI cJ cO) s ∧ (∀ w ∈ nwL, va_Nw w s) ∧ inj57 ad ∧ (∀ q, AD ad q → s.heap.size ≤ q) ∧ L ≤ 384
/-- from pc on, at the call that begins at i, with this stack, this world, the law comes to its end with 1 -/
def LT (b L : Nat) (xs : Nat → Int32) (pc i : Nat) (st : List Value) (σ : SG) : Prop :=
  ∀ (l : Launch) (p : Program) (e : Env) (s : State) (m : MethodId) (below : List Frame) (meth : Method) (c : Code) (G : va_G) (ad : Nat → Nat) (cI cJ cO : ClassId), LC p s m meth c b L xs G ad cI cJ cO →
  ∀ (H : Heap) (locs : List Loc) (ls : Array Slot), va_P G vwCl (wl ad cI cJ cO σ) H → va_S (fun q : Nat => s.heap.size ≤ q) s.heap H locs → lv_has ls 4 [(0, .ref b), (1, .ref (ad 0)), (2, .ref (ad 37)), (3, .int (nI i))] →
  W p l e room_1 s m #[Value.ref b] below meth c H locs 600000 7302250 (lw_Z below #[Value.ref b] s) (F0 m pc ls (st.map (cv ad)))
theorem WD_goL {p : Program} {l : Launch} {e : Env} {Rm : Room} {s : State} {m : MethodId} {args a : Array Value} {below : List Frame} {meth : Method} {c : Code} {H H0 : Heap} {locs : List Loc} {Z : State → Prop} {G : va_G} {ad : Nat → Nat} {cI cJ cO : ClassId} {Q' : Option Value → SG → Prop} {pc : Nat} {ls : Array Slot} {st0 rest : List Value} {cells slots : Nat} {A0 : Nat → Prop}
    (hr : va_Run p l e Rm s m args below meth c H locs cells slots 0 0 (F0 m pc ls st0) rest (QQ G ad cI cJ cO Q' a) (AD ad)) (hA : ∀ q, AD ad q → A0 q) (hS : va_S A0 H0 H locs)
    (kk : ∀ (r : Option Value) (σ' : SG) (H1 : Heap) (locs1 : List Loc), Q' r σ' → va_P G vwCl (wl ad cI cJ cO σ') H1 → va_S A0 H0 H1 locs1 → W p l e Rm s m args below meth c H1 locs1 cells slots Z (F0 m (pc + 3) ls ((r.map (cv ad)).toList ++ rest))) : W p l e Rm s m args below meth c H locs cells slots Z (F0 m pc ls st0) := by
  intro T hT X
  obtain ⟨v, st₀, t, T', L, h0, X', hL, e1, e2, ⟨⟨r, σ', hv, hq, hP, -, -⟩, hz, hk⟩, stp⟩ := hr T hT X
  cases hv
  rw [h0] at hz hk
  have hS1 : va_S A0 H0 T'.heap (locs ++ L) := by
    refine ⟨Nat.le_trans hS.1 (by rw [e1]; exact hz), fun q h1 h2 => ?_, fun q hq => ?_⟩
    · rw [e1, hk q (Nat.lt_of_lt_of_le h1 hS.1) (fun hq => h2 (hA q hq))]; exact hS.2.1 q h1 h2
    · rcases List.mem_append.mp hq with h | h
      · exact hS.2.2 q h
      · exact hA _ (hL q h)
  obtain ⟨t2, a1, b1⟩ := kk r σ' T'.heap (locs ++ L) hq (by rw [e1]; exact hP) hS1 T' rfl X'
  exact ⟨t2, stp t2 a1, b1⟩
section LROW
variable {b L : Nat} {xs : Nat → Int32} {pc i : Nat} {st : List Value} {σ : SG}
theorem LT_ld1 (hd : decode code pc = .ok (.aload_n 1, 1)) (k : LT b L xs (pc + 1) i (.ref 0 :: st) σ) : LT b L xs pc i st σ := by
  intro l p e s m below meth c G ad cI cJ cO C H locs ls hP hS hl
  exact lv_aload_n C.1.1 C.1.2.1 hd rfl (lv_at hl 1 rfl) (k l p e s m below meth c G ad cI cJ cO C H locs ls hP hS hl)
theorem LT_ld2 (hd : decode code pc = .ok (.aload_n 2, 1)) (k : LT b L xs (pc + 1) i (.ref 37 :: st) σ) : LT b L xs pc i st σ := by
  intro l p e s m below meth c G ad cI cJ cO C H locs ls hP hS hl
  exact lv_aload_n C.1.1 C.1.2.1 hd rfl (lv_at hl 2 rfl) (k l p e s m below meth c G ad cI cJ cO C H locs ls hP hS hl)
theorem LT_arg {k : Nat} {n : Int} (d1 : decode code pc = .ok (.aload_n 0, 1)) (d2 : decode code (pc + 1) = .ok (.iload_n 3, 1)) (d3 : decode code (pc + 1 + 1) = .ok (.iconst n, 1)) (hn : Int32.ofInt n = nI k) (d4 : decode code (pc + 1 + 1 + 1) = .ok (.iadd, 1)) (d5 : decode code (pc + 1 + 1 + 1 + 1) = .ok (.iaload, 1)) (hk : i + k < L) (kk : LT b L xs (pc + 1 + 1 + 1 + 1 + 1) i (.int (xs (i + k)) :: st) σ) : LT b L xs pc i st σ := by
  intro l p e s m below meth c G ad cI cJ cO C H locs ls hP hS hl
  have h := kk l p e s m below meth c G ad cI cJ cO C H locs ls hP hS hl
  obtain ⟨⟨hx, hb, hr, hml, hown, hts, hX, hbl, hlocks, hgv⟩, hK, hN, hinj, hA, hL⟩ := C
  refine lv_aload_n hx hb d1 rfl (lv_at hl 0 rfl) ?_
  refine lv_iload_n hx hb d2 rfl (lv_at hl 3 rfl) ?_
  refine lv_iconst (v := nI k) hx hb d3 hn ?_
  refine lv_iadd hx hb d4 ?_
  rw [nI_add]
  refine va_sld hx hb hX hbl (Nat.not_le.mpr hbl) hS (vp_in_nI hk (by omega)) d5 ?_
  rw [nI_clamp (by omega)]
  exact h
theorem LT_cmp {x : Int32} {off : Int} (hd : decode code pc = .ok (.if_icmp .eq off, 3)) (ht : (pc : Int) + off = ((1222 : Nat) : Int)) (k : LT b L xs 1222 i [] σ) : LT b L xs pc i [.int x, .int x] σ := by
  intro l p e s m below meth c G ad cI cJ cO C H locs ls hP hS hl
  exact lv_icmp_eq C.1.1 C.1.2.1 hd ht (fun _ => k l p e s m below meth c G ad cI cJ cO C H locs ls hP hS hl) (fun h => absurd rfl h)
theorem LT_lcmp {x : Int64} {off : Int} (hd : decode code pc = .ok (.lcmp, 1)) (hd2 : decode code (pc + 1) = .ok (.ifCond .eq off, 3)) (ht : ((pc + 1 : Nat) : Int) + off = ((1222 : Nat) : Int)) (k : LT b L xs 1222 i [] σ) : LT b L xs pc i [.long x, .long x] σ := by
  intro l p e s m below meth c G ad cI cJ cO C H locs ls hP hS hl
  refine W.lcmp C.1.1 C.1.2.1 hd ?_
  exact lv_if_eq C.1.1 C.1.2.1 hd2 ht (fun _ => k l p e s m below meth c G ad cI cJ cO C H locs ls hP hS hl) (fun h => absurd ((lg_cmp_eq x x).mpr rfl) h)
theorem LT_next (hi : i ≤ 384) (k : LT b L xs 18 (i + 6) [] σ) : LT b L xs 1222 i [] σ := by
  intro l p e s m below meth c G ad cI cJ cO C H locs ls hP hS hl
  refine lv_iinc (v := nI (i + 6)) (lv' := [(3, .int (nI (i + 6))), (0, .ref b), (1, .ref (ad 0)), (2, .ref (ad 37))]) C.1.1 C.1.2.1 dL_law_1222 hl (k := 3) rfl (by rw [← nI_add]; rfl) (by decide) rfl (fun ls hl => ?_)
  refine lv_goto (tgt := 18) C.1.1 C.1.2.1 dL_law_1225 (by decide) ?_
  exact k l p e s m below meth c G ad cI cJ cO C H locs ls hP hS (lv_sub hl [1, 2, 3, 0] rfl)
theorem LT_sw {x : Int32} (kc : ∀ j, j < 33 → LT b L xs (tgL.getD j 0) i [] σ) (ko : LT b L xs 1222 i [] σ) : LT b L xs 33 i [.int x] σ := by
  intro l p e s m below meth c G ad cI cJ cO C H locs ls hP hS hl
  by_cases h : x.toInt < 0 ∨ 32 < x.toInt
  · exact lv_tableOut C.1.1 C.1.2.1 dL_law_33 h (tgt := 1222) (by decide) (ko l p e s m below meth c G ad cI cJ cO C H locs ls hP hS hl)
  · have h1 : ¬ x.toInt < 0 := fun q => h (Or.inl q)
    have h2 : ¬ 32 < x.toInt := fun q => h (Or.inr q)
    have hj : (x.toInt - 0).toNat < 33 := by omega
    refine lv_tableIn C.1.1 C.1.2.1 dL_law_33 h1 h2 (tgL_ok _ hj) (tgt := tgL.getD (x.toInt - 0).toNat 0) (by omega) ?_
    exact kc _ hj l p e s m below meth c G ad cI cJ cO C H locs ls hP hS hl
theorem LT_top (hi : i ≤ 400) (k : i + 6 ≤ L → ∀ x : Int32, LT b L xs 33 i [.int x] σ) : LT b L xs 18 i [] σ := by
  intro l p e s m below meth c G ad cI cJ cO C H locs ls hP hS hl
  have C0 := C
  obtain ⟨⟨hx, hb, hr, hml, hown, hts, hX, hbl, hlocks, hgv⟩, hK, hN, hinj, hA, hL⟩ := C
  refine lv_iload_n hx hb dL_law_18 rfl (lv_at hl 3 rfl) ?_
  refine lv_aload_n hx hb dL_law_19 rfl (lv_at hl 0 rfl) ?_
  refine va_slen hx hb hX hbl (Nat.not_le.mpr hbl) hS dL_law_20 ?_
  refine lv_bipush (v := nI 6) hx hb dL_law_21 (by decide) ?_
  refine lv_isub hx hb dL_law_23 ?_
  have e1 : (nI L - nI 6).toInt = (L : Int) - 6 := pk_sub_toInt (by omega) (by decide)
  have e2 : (nI i).toInt = i := nI_toInt (by omega)
  refine lv_icmp_gt (tgt := 1228) hx hb dL_law_24 (by decide) (fun h => ?_) (fun h => ?_)
  · refine lv_iconst (v := 1) hx hb dL_law_1228 (by decide) ?_
    refine va_forget hS.2.2 ?_
    exact lw_ret hx hb hr hlocks dL_law_1229
  · have h6 : i + 6 ≤ L := by
      have q : ¬ (nI L - nI 6).toInt < (nI i).toInt := fun q => h (Int32.lt_iff_toInt_lt.mpr q)
      rw [e1, e2] at q
      omega
    refine lv_aload_n hx hb dL_law_27 rfl (lv_at hl 0 rfl) ?_
    refine lv_iload_n hx hb dL_law_28 rfl (lv_at hl 3 rfl) ?_
    refine va_sld hx hb hX hbl (Nat.not_le.mpr hbl) hS (vp_in_nI (show i < L by omega) (by omega)) dL_law_29 ?_
    refine lv_bipush (v := nI 63) hx hb dL_law_30 (by decide) ?_
    refine lv_iand hx hb dL_law_32 ?_
    exact k h6 _ l p e s m below meth c G ad cI cJ cO C0 H locs ls hP hS hl
theorem LT_invV {M' : MD} {d : Nat} {lo' : List (Option Value)} {Q' : Option Value → SG → Prop} {n idx b0 ci : Nat} {As : List Value} (hd : decode code pc = .ok (.invokevirtual idx, 3)) (hl0 : Cond.methodLink RL idx M'.1 ∈ lU) (hi : MIV M' n) (hn : As.length = n) (hk : kd b0 = ci) (hc : ci < 8) (hcl : M'.1.cls = cC ci) (hlen : (entL (.ref b0 :: As)).length ≤ M'.2.2.1) (hlo : lo' = entL (.ref b0 :: As) ++ List.replicate (M'.2.2.1 - (entL (.ref b0 :: As)).length) none) (hst : (st.map fun v => v.category).sum ≤ 8) (hdep : d ≤ 20)
    (hcall : TT M' d 0 lo' [] σ Q') (kk : ∀ (r : Option Value) (σ' : SG), Q' r σ' → LT b L xs (pc + 3) i (r.toList ++ st) σ') : LT b L xs pc i (As.reverse ++ .ref b0 :: st) σ := by
  intro l p e s m below meth c G ad cI cJ cO C H locs ls hP hS hl
  have C0 := C
  obtain ⟨⟨hx, hb, hr, hml, hown, hts0, hX, hbl, hlocks, hgv⟩, hK, hN, hinj, hA, hL⟩ := C
  have hts : ∀ w ∈ lU, w.before #[Value.ref b] s = true := fun w hw => hts0 w (lU_in w hw)
  obtain ⟨i1, i2, i3, i4, i5, i6, i7⟩ := hi
  have hM := TT.met i7 hlen hlo hcall l G ad cI cJ cO hinj
  refine WD_goL (va_runV (As := As.map (cv ad)) (rest := st.map (cv ad)) (b := ad b0) (C := M'.1.cls) (cc := code) (nL := 4) (Ts := lU) (own := RL) (n := n) ⟨hx, hb, hml, hown, hts⟩ hM
    ⟨callB_of n hts (good_ws i4) rfl rfl rfl (hts _ i3) (hts _ hl0) i5 ⟨by show d + 1 ≤ 2048; omega, by show 8 + (M'.2.2.1 + 11) + 40 * d ≤ 84000; omega⟩, hts _ i1, hts _ i2⟩
    ⟨WD_blind, by have := va_recv (hK := hK) (hP := hP) (c_get hc) (obj_at hk hc); rw [hcl]; exact this, fun U hU hW => ⟨rfl, by rw [hU]; exact hP, va_K.moved hW.alike hK, nw_warm hW hN⟩⟩ rfl (by rw [List.length_map]; exact hn) hl.1 (by simp [List.map_append, List.map_reverse, cv]) (lv_room (by rw [cv_sum]; exact hst)) hd ⟨Nat.le_refl _, Nat.le_refl _⟩) hA hS (fun r σ' H1 locs1 hq h1 h2 => ?_)
  rw [st_cv]
  exact kk r σ' hq l p e s m below meth c G ad cI cJ cO C0 H1 locs1 ls h1 h2 hl
theorem LT_inv0 {M' : MD} {d : Nat} {lo' : List (Option Value)} {Q' : Option Value → SG → Prop} {idx b0 ci : Nat} (hd : decode code pc = .ok (.invokevirtual idx, 3)) (hl0 : Cond.methodLink RL idx M'.1 ∈ lU) (hi : MIV M' 0) (hk : kd b0 = ci) (hc : ci < 8) (hcl : M'.1.cls = cC ci) (hlen : (entL (.ref b0 :: [])).length ≤ M'.2.2.1) (hlo : lo' = entL (.ref b0 :: []) ++ List.replicate (M'.2.2.1 - (entL (.ref b0 :: [])).length) none) (hst : (st.map fun v => v.category).sum ≤ 8) (hdep : d ≤ 20) (hcall : TT M' d 0 lo' [] σ Q') (kk : ∀ (r : Option Value) (σ' : SG), Q' r σ' → LT b L xs (pc + 3) i (r.toList ++ st) σ') : LT b L xs pc i (.ref b0 :: st) σ := LT_invV (As := []) hd hl0 hi rfl hk hc hcl hlen hlo hst hdep hcall kk
theorem LT_inv1 {M' : MD} {d : Nat} {lo' : List (Option Value)} {Q' : Option Value → SG → Prop} {idx b0 ci : Nat} {x1 : Value} (hd : decode code pc = .ok (.invokevirtual idx, 3)) (hl0 : Cond.methodLink RL idx M'.1 ∈ lU) (hi : MIV M' 1) (hk : kd b0 = ci) (hc : ci < 8) (hcl : M'.1.cls = cC ci) (hlen : (entL (.ref b0 :: [x1])).length ≤ M'.2.2.1) (hlo : lo' = entL (.ref b0 :: [x1]) ++ List.replicate (M'.2.2.1 - (entL (.ref b0 :: [x1])).length) none) (hst : (st.map fun v => v.category).sum ≤ 8) (hdep : d ≤ 20) (hcall : TT M' d 0 lo' [] σ Q') (kk : ∀ (r : Option Value) (σ' : SG), Q' r σ' → LT b L xs (pc + 3) i (r.toList ++ st) σ') : LT b L xs pc i (x1 :: .ref b0 :: st) σ := LT_invV (As := [x1]) hd hl0 hi rfl hk hc hcl hlen hlo hst hdep hcall kk
theorem LT_inv2 {M' : MD} {d : Nat} {lo' : List (Option Value)} {Q' : Option Value → SG → Prop} {idx b0 ci : Nat} {x1 x2 : Value} (hd : decode code pc = .ok (.invokevirtual idx, 3)) (hl0 : Cond.methodLink RL idx M'.1 ∈ lU) (hi : MIV M' 2) (hk : kd b0 = ci) (hc : ci < 8) (hcl : M'.1.cls = cC ci) (hlen : (entL (.ref b0 :: [x1, x2])).length ≤ M'.2.2.1) (hlo : lo' = entL (.ref b0 :: [x1, x2]) ++ List.replicate (M'.2.2.1 - (entL (.ref b0 :: [x1, x2])).length) none) (hst : (st.map fun v => v.category).sum ≤ 8) (hdep : d ≤ 20) (hcall : TT M' d 0 lo' [] σ Q') (kk : ∀ (r : Option Value) (σ' : SG), Q' r σ' → LT b L xs (pc + 3) i (r.toList ++ st) σ') : LT b L xs pc i (x2 :: x1 :: .ref b0 :: st) σ := LT_invV (As := [x1, x2]) hd hl0 hi rfl hk hc hcl hlen hlo hst hdep hcall kk
theorem LT_inv3 {M' : MD} {d : Nat} {lo' : List (Option Value)} {Q' : Option Value → SG → Prop} {idx b0 ci : Nat} {x1 x2 x3 : Value} (hd : decode code pc = .ok (.invokevirtual idx, 3)) (hl0 : Cond.methodLink RL idx M'.1 ∈ lU) (hi : MIV M' 3) (hk : kd b0 = ci) (hc : ci < 8) (hcl : M'.1.cls = cC ci) (hlen : (entL (.ref b0 :: [x1, x2, x3])).length ≤ M'.2.2.1) (hlo : lo' = entL (.ref b0 :: [x1, x2, x3]) ++ List.replicate (M'.2.2.1 - (entL (.ref b0 :: [x1, x2, x3])).length) none) (hst : (st.map fun v => v.category).sum ≤ 8) (hdep : d ≤ 20) (hcall : TT M' d 0 lo' [] σ Q') (kk : ∀ (r : Option Value) (σ' : SG), Q' r σ' → LT b L xs (pc + 3) i (r.toList ++ st) σ') : LT b L xs pc i (x3 :: x2 :: x1 :: .ref b0 :: st) σ := LT_invV (As := [x1, x2, x3]) hd hl0 hi rfl hk hc hcl hlen hlo hst hdep hcall kk
theorem LT_inv4 {M' : MD} {d : Nat} {lo' : List (Option Value)} {Q' : Option Value → SG → Prop} {idx b0 ci : Nat} {x1 x2 x3 x4 : Value} (hd : decode code pc = .ok (.invokevirtual idx, 3)) (hl0 : Cond.methodLink RL idx M'.1 ∈ lU) (hi : MIV M' 4) (hk : kd b0 = ci) (hc : ci < 8) (hcl : M'.1.cls = cC ci) (hlen : (entL (.ref b0 :: [x1, x2, x3, x4])).length ≤ M'.2.2.1) (hlo : lo' = entL (.ref b0 :: [x1, x2, x3, x4]) ++ List.replicate (M'.2.2.1 - (entL (.ref b0 :: [x1, x2, x3, x4])).length) none) (hst : (st.map fun v => v.category).sum ≤ 8) (hdep : d ≤ 20) (hcall : TT M' d 0 lo' [] σ Q') (kk : ∀ (r : Option Value) (σ' : SG), Q' r σ' → LT b L xs (pc + 3) i (r.toList ++ st) σ') : LT b L xs pc i (x4 :: x3 :: x2 :: x1 :: .ref b0 :: st) σ := LT_invV (As := [x1, x2, x3, x4]) hd hl0 hi rfl hk hc hcl hlen hlo hst hdep hcall kk
theorem LT_inv5 {M' : MD} {d : Nat} {lo' : List (Option Value)} {Q' : Option Value → SG → Prop} {idx b0 ci : Nat} {x1 x2 x3 x4 x5 : Value} (hd : decode code pc = .ok (.invokevirtual idx, 3)) (hl0 : Cond.methodLink RL idx M'.1 ∈ lU) (hi : MIV M' 5) (hk : kd b0 = ci) (hc : ci < 8) (hcl : M'.1.cls = cC ci) (hlen : (entL (.ref b0 :: [x1, x2, x3, x4, x5])).length ≤ M'.2.2.1) (hlo : lo' = entL (.ref b0 :: [x1, x2, x3, x4, x5]) ++ List.replicate (M'.2.2.1 - (entL (.ref b0 :: [x1, x2, x3, x4, x5])).length) none) (hst : (st.map fun v => v.category).sum ≤ 8) (hdep : d ≤ 20) (hcall : TT M' d 0 lo' [] σ Q') (kk : ∀ (r : Option Value) (σ' : SG), Q' r σ' → LT b L xs (pc + 3) i (r.toList ++ st) σ') : LT b L xs pc i (x5 :: x4 :: x3 :: x2 :: x1 :: .ref b0 :: st) σ := LT_invV (As := [x1, x2, x3, x4, x5]) hd hl0 hi rfl hk hc hcl hlen hlo hst hdep hcall kk
end LROW
