-- what every contract stands on: the nest links, the array classes, makers, the loop
def NE (U : State) : Prop := va_Nw (.methodLinkNest "DepotMarch" 15 yX3_init "DepotMarch") U ∧ va_Nw (.methodLinkNest "DepotMarch" 22 yX1_init "DepotMarch") U ∧ va_Nw (.methodLinkNest "DepotMarch$Reader" 20 yX5_init "DepotMarch") U ∧ va_Nw (.methodLinkNest "DepotMarch$World" 20 yX0_init "DepotMarch") U ∧ va_Nw (.methodLinkNest "DepotMarch$World" 77 yX7_within "DepotMarch") U ∧ va_Nw (.methodLinkNest "DepotMarch$Rows" 49 yX7_within "DepotMarch") U ∧ va_Nw (.methodLinkNest "DepotMarch$Book" 35 yX7_within "DepotMarch") U ∧ va_Nw (.fieldLinkNest "DepotMarch$Party" 9 "DepotMarch" "NO_ORDERS" "[I" "DepotMarch") U ∧ va_AO RX2 U ∧ va_AO RX6 U
theorem NE.n_DepotMarch_15 {U : State} (h : NE U) : va_Nw (.methodLinkNest RX7 15 yX3_init "DepotMarch") U := h.1
theorem NE.n_DepotMarch_22 {U : State} (h : NE U) : va_Nw (.methodLinkNest RX7 22 yX1_init "DepotMarch") U := h.2.1
theorem NE.n_Reader_20 {U : State} (h : NE U) : va_Nw (.methodLinkNest RX3 20 yX5_init "DepotMarch") U := h.2.2.1
theorem NE.n_World_20 {U : State} (h : NE U) : va_Nw (.methodLinkNest RX6 20 yX0_init "DepotMarch") U := h.2.2.2.1
theorem NE.n_World_77 {U : State} (h : NE U) : va_Nw (.methodLinkNest RX6 77 yX7_within "DepotMarch") U := h.2.2.2.2.1
theorem NE.n_Rows_49 {U : State} (h : NE U) : va_Nw (.methodLinkNest RX4 49 yX7_within "DepotMarch") U := h.2.2.2.2.2.1
theorem NE.n_Book_35 {U : State} (h : NE U) : va_Nw (.methodLinkNest RX0 35 yX7_within "DepotMarch") U := h.2.2.2.2.2.2.1
theorem NE.n_orders {U : State} (h : NE U) : va_Nw (.fieldLinkNest RX2 9 "DepotMarch" "NO_ORDERS" "[I" "DepotMarch") U := h.2.2.2.2.2.2.2.1
theorem NE.aoP {U : State} (h : NE U) : va_AO RX2 U := h.2.2.2.2.2.2.2.2.1
theorem NE.aoW {U : State} (h : NE U) : va_AO RX6 U := h.2.2.2.2.2.2.2.2.2
theorem NE.warm {s U : State} (hW : s.WarmedH U.vm) (h : NE s) : NE U := by
  obtain ⟨h1, h2, h3, h4, h5, h6, h7, h8, h9, h10⟩ := h
  exact ⟨va_Nw.warmM hW h1, va_Nw.warmM hW h2, va_Nw.warmM hW h3, va_Nw.warmM hW h4, va_Nw.warmM hW h5, va_Nw.warmM hW h6, va_Nw.warmM hW h7, va_Nw.warmF hW h8, va_AO.moved hW.alike h9, va_AO.moved hW.alike h10⟩
theorem NE.call {U : State} {g : JFrame} {mk : MethodId} {a : Array Value} (h : NE U) : NE (U.calling g mk a) := by
  obtain ⟨h1, h2, h3, h4, h5, h6, h7, h8, h9, h10⟩ := h
  exact ⟨va_Nw.same (u := U) (U := U.calling g mk a) rfl rfl h1, va_Nw.same (u := U) (U := U.calling g mk a) rfl rfl h2, va_Nw.same (u := U) (U := U.calling g mk a) rfl rfl h3, va_Nw.same (u := U) (U := U.calling g mk a) rfl rfl h4, va_Nw.same (u := U) (U := U.calling g mk a) rfl rfl h5, va_Nw.same (u := U) (U := U.calling g mk a) rfl rfl h6, va_Nw.same (u := U) (U := U.calling g mk a) rfl rfl h7, va_Nw.same (u := U) (U := U.calling g mk a) rfl rfl h8, va_AO.moved (u := U) (U := U.calling g mk a) (Vm.Alike.refl U.vm) h9, va_AO.moved (u := U) (U := U.calling g mk a) (Vm.Alike.refl U.vm) h10⟩
abbrev TY (cI cZ cB cJ cP cW : ClassId) : List (ClassId × FieldType) := [(cI, .int), (cZ, .boolean), (cB, .byte), (cJ, .long), (cP, .object RX2), (cW, .object RX6)]
def EV (dC : Nat → ClassId) (dI : Nat → Nat → Nat) (cI cZ cB cJ cP cW : ClassId) (U : State) : Prop := NE U ∧ va_K (dC, dI) vwCl (TY cI cZ cB cJ cP cW) U
section
variable {dC : Nat → ClassId} {dI : Nat → Nat → Nat} {cI cZ cB cJ cP cW : ClassId}
theorem EV.warm {s U : State} (h : EV dC dI cI cZ cB cJ cP cW s) (hW : s.WarmedH U.vm) : EV dC dI cI cZ cB cJ cP cW U := ⟨h.1.warm hW, va_K.moved hW.alike h.2⟩
theorem EV.call {U : State} {g : JFrame} {mk : MethodId} {a : Array Value} (h : EV dC dI cI cZ cB cJ cP cW U) : EV dC dI cI cZ cB cJ cP cW (U.calling g mk a) := ⟨h.1.call, va_K.moved (u := U) (U := U.calling g mk a) (Vm.Alike.refl U.vm) h.2⟩
theorem fbR {av : List Value} {w : va_W} : FrameBlind (va_Pc av (fun U => EV dC dI cI cZ cB cJ cP cW U ∧ va_P (dC, dI) vwCl w U.heap)) := fun _ _ _ _ q => ⟨q.1, q.2.1.call, q.2.2⟩
theorem fbRX {av : List Value} {w : va_W} {X : State → Prop} (hX : ∀ (U : State) (g : JFrame) (mk : MethodId) (a : Array Value), X U → X (U.calling g mk a)) : FrameBlind (va_Pc av (fun U => EV dC dI cI cZ cB cJ cP cW U ∧ va_P (dC, dI) vwCl w U.heap ∧ X U)) := fun _ _ _ _ q => ⟨q.1, q.2.1.call, q.2.2.1, hX _ _ _ _ q.2.2.2⟩
theorem fbM {av : List Value} {w : va_W} {sz : Nat} : FrameBlind (va_Pc av (fun U => U.heap.size = sz ∧ EV dC dI cI cZ cB cJ cP cW U ∧ va_P (dC, dI) vwCl w U.heap ∧ va_D (fun _ => True) w)) := fun _ _ _ _ q => ⟨q.1, q.2.1, q.2.2.1.call, q.2.2.2⟩
theorem fbMX {av : List Value} {w : va_W} {sz : Nat} {X : State → Prop} (hX : ∀ (U : State) (g : JFrame) (mk : MethodId) (a : Array Value), X U → X (U.calling g mk a)) : FrameBlind (va_Pc av (fun U => U.heap.size = sz ∧ EV dC dI cI cZ cB cJ cP cW U ∧ va_P (dC, dI) vwCl w U.heap ∧ va_D (fun _ => True) w ∧ X U)) := fun _ _ _ _ q => ⟨q.1, q.2.1, q.2.2.1.call, q.2.2.2.1, q.2.2.2.2.1, hX _ _ _ _ q.2.2.2.2.2⟩
end
theorem blZ {C n d : String} {v : Value} {A : Nat → Prop} (U : State) (g : JFrame) (mk : MethodId) (a : Array Value) (h : va_Z C n d v A U U.heap) : va_Z C n d v A (U.calling g mk a) (U.calling g mk a).heap := va_Z.moved (u := U) (U := U.calling g mk a) (Vm.Alike.refl U.vm) h
theorem vpd {i : Int32} {n : Nat} (h : decide (¬ (i < 0 ∨ n ≤ i.toNatClampNeg)) = true) : vp_in i n := by
  unfold vp_in
  exact of_decide_eq_true h
theorem ra_int {s : State} (x y : ClassId) (h1 : va_RA s x .int) (h2 : va_RA s y .int) : x = y := Option.some.inj (Eq.trans (Eq.symm h1) h2)
theorem ra_boolean {s : State} (x y : ClassId) (h1 : va_RA s x .boolean) (h2 : va_RA s y .boolean) : x = y := Option.some.inj (Eq.trans (Eq.symm h1) h2)
theorem ra_byte {s : State} (x y : ClassId) (h1 : va_RA s x .byte) (h2 : va_RA s y .byte) : x = y := Option.some.inj (Eq.trans (Eq.symm h1) h2)
theorem ra_long {s : State} (x y : ClassId) (h1 : va_RA s x .long) (h2 : va_RA s y .long) : x = y := Option.some.inj (Eq.trans (Eq.symm h1) h2)
theorem ra_obj {s : State} {C : String} (x y : ClassId) (h1 : va_RA s x (.object C)) (h2 : va_RA s y (.object C)) : x = y := by
  obtain ⟨_, _, _, _, _, a⟩ := h1
  obtain ⟨_, _, _, _, _, b⟩ := h2
  exact Option.some.inj (Eq.trans (Eq.symm a) b)
theorem n_cpy {α : Type} (f : Nat → α) (n : Nat) : va_cpy f f (0 : Int32).toNatClampNeg (0 : Int32).toNatClampNeg n = f := by
  funext k
  have h0 : (0 : Int32).toNatClampNeg = 0 := rfl
  rw [h0]
  by_cases h : 0 ≤ k ∧ k < 0 + n
  · rw [pk_cpy_in h.1 h.2, Nat.zero_add, Nat.sub_zero]
  · exact pk_cpy_out (by omega)
theorem n_fitI (x : Int32) : fits .int (.int x) = true := rfl
section
variable {p : Program} {l : Launch} {e : Env} {R : Room} {s : State} {m : MethodId} {args : Array Value} {below : List Frame} {meth : Method} {c : Code} {H : Heap} {locs : List Loc} {cells slots : Nat} {Q : State → Prop}
variable {cc : ByteArray} {pc : Nat} {ls : Array Slot} {rest : List Value} {D : va_G} {cl : List vw_C} {A : Nat → Prop} {a : Nat} {tys : List (ClassId × FieldType)} {ws : va_W} {H0 : Heap}
theorem n_newa (hexec : p.tables.exec = Jvm.exec) (hb : c.code = cc) {atype : ArrayType} (harr : (Cond.arrayClass (newarray.typeOf atype)).before args s = true) {ty : FieldType} (hty : newarray.typeOf atype = ty) (hu : ∀ x y : ClassId, va_RA s x ty → va_RA s y ty → x = y) (hK : va_K D cl tys s) (hP : va_P D cl ws H) (hD : va_D A ws) (hS : va_S A H0 H locs) (hA : ∀ q, H0.size ≤ q → A q) (t0 : Nat) {cI : ClassId} (ht : tys[t0]? = some (cI, ty))
    {n : Int32} {N' : Nat} {a0 : vp_A} (ha : ∀ cA : ClassId, vp_cell cA a0 = arrV cA N' (fun _ => defaultValue ty)) (hn : ¬ n < 0) (hN : n.toNatClampNeg = N') (hbytes : N' * componentBytes ty ≤ 536870912) (hcells : cells + 1 ≤ R.cells) (hslots : slots + N' ≤ R.slots) (hdg : decode cc pc = .ok (.newarray atype, 2))
    (kk : ∀ (q : Nat) (H1 : Heap), va_P D cl (ws ++ [(q, .inl (cI, a0))]) H1 → va_D A (ws ++ [(q, .inl (cI, a0))]) → va_S A H0 H1 locs →
      W p l e R s m args below meth c H1 locs (cells + 1) (slots + N') Q (F0 m (pc + 2) ls (.ref q :: rest))) : W p l e R s m args below meth c H locs cells slots Q (F0 m pc ls (.int n :: rest)) := by
  refine va_newa hexec hb harr hty hK hP hD hS hA ha hn hN hbytes hcells hslots hdg (fun q cA H1 hK1 hP1 hD1 hS1 => ?_)
  have e9 : cA = cI := hu cA cI (hK1.2 tys.length (cA, ty) (by simp)).2 (hK.2 t0 _ ht).2
  subst e9
  exact kk q H1 hP1 hD1 hS1
theorem n_newq (hexec : p.tables.exec = Jvm.exec) (hb : c.code = cc) {own C : String} {index : Nat} (hown : s.vm.findClass own = some m.cls) (hclink : (Cond.classLink own index C).before args s = true) (hover : va_AO C s) (hK : va_K D cl tys s) (hP : va_P D cl ws H) (hD : va_D A ws) (hS : va_S A H0 H locs) (hA : ∀ q, H0.size ≤ q → A q) (t0 : Nat) {cI : ClassId} (ht : tys[t0]? = some (cI, .object C))
    {n : Int32} {N' : Nat} (hn : ¬ n < 0) (hN : n.toNatClampNeg = N') (hbytes : N' * 4 ≤ 536870912) (hcells : cells + 1 ≤ R.cells) (hslots : slots + N' ≤ R.slots) (hdg : decode cc pc = .ok (.anewarray index, 3))
    (kk : ∀ (q : Nat) (H1 : Heap), va_P D cl (ws ++ [(q, .inl (cI, N', .inr (.inr (.inr (.inr (fun _ => none))))))]) H1 → va_D A (ws ++ [(q, .inl (cI, N', .inr (.inr (.inr (.inr (fun _ => none))))))]) → va_S A H0 H1 locs →
      W p l e R s m args below meth c H1 locs (cells + 1) (slots + N') Q (F0 m (pc + 3) ls (.ref q :: rest))) : W p l e R s m args below meth c H locs cells slots Q (F0 m pc ls (.int n :: rest)) := by
  refine va_newq hexec hb hown hclink hover hK hP hD hS hA hn hN hbytes hcells hslots hdg (fun q cA H1 hK1 hP1 hD1 hS1 => ?_)
  have e9 : cA = cI := ra_obj cA cI (hK1.2 tys.length (cA, .object C) (by simp)).2 (hK.2 t0 _ ht).2
  subst e9
  exact kk q H1 hP1 hD1 hS1
theorem W_loop {σ : Type} (μ : σ → Nat) (I : σ → Heap → List Loc → Array Slot → Prop) {head : Nat}
    (hs : ∀ (x : σ) (H : Heap) (locs : List Loc) (ls : Array Slot), I x H locs ls → (∀ (y : σ) (H : Heap) (locs : List Loc) (ls : Array Slot), I y H locs ls → μ y < μ x → W p l e R s m args below meth c H locs cells slots Q (F0 m head ls [])) → W p l e R s m args below meth c H locs cells slots Q (F0 m head ls []))
    (x : σ) (H : Heap) (locs : List Loc) (ls : Array Slot) (h : I x H locs ls) : W p l e R s m args below meth c H locs cells slots Q (F0 m head ls []) := by
  have key : ∀ (n : Nat) (x : σ) (H : Heap) (locs : List Loc) (ls : Array Slot), μ x < n → I x H locs ls → W p l e R s m args below meth c H locs cells slots Q (F0 m head ls []) := by
    intro n
    induction n with
    | zero => intro x H locs ls h; omega
    | succ n ih => intro x H locs ls h hI; exact hs x H locs ls hI (fun y H locs ls hy hlt => ih y H locs ls (by omega) hy)
  exact key _ x H locs ls (Nat.lt_succ_self _) h
end
/-- an array's cell speaks of its places alone -/
theorem n_arr {D : va_G} {cl : List vw_C} {A : Nat → Prop} {H : Heap} {w0 w1 : va_W} {a : Nat} {cA : ClassId} {n : Nat} {f g : Nat → Int32} (h : ∀ j, j < n → f j = g j) (hP : va_P D cl (w0 ++ (a, .inl (cA, n, .inl f)) :: w1) H) (hD : va_D A (w0 ++ (a, .inl (cA, n, .inl f)) :: w1)) : va_P D cl (w0 ++ (a, .inl (cA, n, .inl g)) :: w1) H ∧ va_D A (w0 ++ (a, .inl (cA, n, .inl g)) :: w1) := by
  have hfg : (fun j : Fin n => Value.int (f j.val)) = (fun j : Fin n => Value.int (g j.val)) := by
    funext j
    rw [h j.val j.isLt]
  have hc : vp_cell cA (n, .inl f) = vp_cell cA (n, .inl g) := by
    rw [vp_cell_i, vp_cell_i]
    unfold arrV
    rw [hfg]
  have ix : ∀ k : Nat, (w0 ++ (a, .inl (cA, n, .inl g)) :: w1 : va_W)[k]? = if k = w0.length then some (a, .inl (cA, n, .inl g)) else (w0 ++ (a, .inl (cA, n, .inl f)) :: w1 : va_W)[k]? := by
    intro k
    by_cases hk : k = w0.length
    · subst hk; simp
    · rw [if_neg hk]
      by_cases hl : k < w0.length
      · rw [List.getElem?_append_left hl, List.getElem?_append_left hl]
      · rw [List.getElem?_append_right (by omega), List.getElem?_append_right (by omega)]
        obtain ⟨j, hj⟩ : ∃ j, k - w0.length = j + 1 := ⟨k - w0.length - 1, by omega⟩
        rw [hj]; rfl
  have hf : (w0 ++ (a, .inl (cA, n, .inl f)) :: w1 : va_W)[w0.length]? = some (a, .inl (cA, n, .inl f)) := by simp
  refine ⟨fun k q hq => ?_, ⟨fun i j x y hx hy hxy => ?_, fun k q hq => ?_⟩⟩
  · rw [ix] at hq
    by_cases hk : k = w0.length
    · rw [if_pos hk] at hq
      cases hq
      have h1 := hP _ _ hf
      show H[a]? = some (vp_cell cA (n, .inl g))
      rw [← hc]; exact h1
    · rw [if_neg hk] at hq
      exact hP k q hq
  · rw [ix] at hx hy
    by_cases hi : i = w0.length
    · by_cases hj : j = w0.length
      · omega
      · rw [if_pos hi] at hx; rw [if_neg hj] at hy
        cases hx
        have := hD.1 w0.length j _ _ hf hy hxy
        omega
    · by_cases hj : j = w0.length
      · rw [if_neg hi] at hx; rw [if_pos hj] at hy
        cases hy
        have := hD.1 i w0.length _ _ hx hf hxy
        omega
      · rw [if_neg hi] at hx; rw [if_neg hj] at hy
        exact hD.1 i j x y hx hy hxy
  · rw [ix] at hq
    by_cases hk : k = w0.length
    · rw [if_pos hk] at hq
      cases hq
      exact hD.2 w0.length (a, .inl (cA, n, .inl f)) hf
    · rw [if_neg hk] at hq
      exact hD.2 k q hq
set_option maxRecDepth 20000 in
theorem df_X0 : ∀ j, j < 2 → defaultValue (tyX0 j) = vp_V [.int 0, .null] j := by
  intro j hj
  rcases (show j = 0 ∨ j = 1 by omega) with rfl | rfl <;> rfl
set_option maxRecDepth 20000 in
theorem df_X1 : ∀ j, j < 3 → defaultValue (tyX1 j) = vp_V [.null, .int 0, .int 0] j := by
  intro j hj
  rcases (show j = 0 ∨ j = 1 ∨ j = 2 by omega) with rfl | rfl | rfl <;> rfl
set_option maxRecDepth 20000 in
theorem df_X2 : ∀ j, j < 11 → defaultValue (tyX2 j) = vp_V [.int 0, .int 0, .int 0, .int 0, .int 0, .int 0, .int 0, .int 0, .null, .null, .null] j := by
  intro j hj
  rcases (show j = 0 ∨ j = 1 ∨ j = 2 ∨ j = 3 ∨ j = 4 ∨ j = 5 ∨ j = 6 ∨ j = 7 ∨ j = 8 ∨ j = 9 ∨ j = 10 by omega) with rfl | rfl | rfl | rfl | rfl | rfl | rfl | rfl | rfl | rfl | rfl <;> rfl
set_option maxRecDepth 20000 in
theorem df_X3 : ∀ j, j < 8 → defaultValue (tyX3 j) = vp_V [.int 0, .int 0, .int 0, .null, .int 0, .int 0, .null, .int 0] j := by
  intro j hj
  rcases (show j = 0 ∨ j = 1 ∨ j = 2 ∨ j = 3 ∨ j = 4 ∨ j = 5 ∨ j = 6 ∨ j = 7 by omega) with rfl | rfl | rfl | rfl | rfl | rfl | rfl | rfl <;> rfl
set_option maxRecDepth 20000 in
theorem df_X4 : ∀ j, j < 8 → defaultValue (tyX4 j) = vp_V [.null, .null, .null, .null, .null, .null, .int 0, .int 0] j := by
  intro j hj
  rcases (show j = 0 ∨ j = 1 ∨ j = 2 ∨ j = 3 ∨ j = 4 ∨ j = 5 ∨ j = 6 ∨ j = 7 by omega) with rfl | rfl | rfl | rfl | rfl | rfl | rfl | rfl <;> rfl
set_option maxRecDepth 20000 in
theorem df_X5 : ∀ j, j < 4 → defaultValue (tyX5 j) = vp_V [.null, .null, .null, .int 0] j := by
  intro j hj
  rcases (show j = 0 ∨ j = 1 ∨ j = 2 ∨ j = 3 by omega) with rfl | rfl | rfl | rfl <;> rfl
set_option maxRecDepth 20000 in
theorem df_X6 : ∀ j, j < 9 → defaultValue (tyX6 j) = vp_V [.int 0, .int 0, .int 0, .null, .null, .null, .null, .null, .null] j := by
  intro j hj
  rcases (show j = 0 ∨ j = 1 ∨ j = 2 ∨ j = 3 ∨ j = 4 ∨ j = 5 ∨ j = 6 ∨ j = 7 ∨ j = 8 by omega) with rfl | rfl | rfl | rfl | rfl | rfl | rfl | rfl | rfl <;> rfl
set_option maxRecDepth 20000 in
theorem df_X7 : ∀ j, j < 7 → defaultValue (tyX7 j) = vp_V [.null, .int 0, .null, .null, .null, .null, .null] j := by
  intro j hj
  rcases (show j = 0 ∨ j = 1 ∨ j = 2 ∨ j = 3 ∨ j = 4 ∨ j = 5 ∨ j = 6 by omega) with rfl | rfl | rfl | rfl | rfl | rfl | rfl <;> rfl
set_option maxRecDepth 20000 in
theorem df_X8 : ∀ j, j < 48 → defaultValue (tyX8 j) = vp_V [.int 0, .null, .int 0, .null, .null, .null, .null, .null, .null, .null, .null, .null, .null, .null, .null, .null, .null, .null, .null, .null, .null, .null, .null, .null, .null, .null, .null, .null, .null, .null, .int 0, .int 0, .int 0, .int 0, .int 0, .int 0, .int 0, .int 0, .int 0, .int 0, .int 0, .int 0, .int 0, .null, .null, .null, .int 0, .null] j := by
  intro j hj
  rcases (show j = 0 ∨ j = 1 ∨ j = 2 ∨ j = 3 ∨ j = 4 ∨ j = 5 ∨ j = 6 ∨ j = 7 ∨ j = 8 ∨ j = 9 ∨ j = 10 ∨ j = 11 ∨ j = 12 ∨ j = 13 ∨ j = 14 ∨ j = 15 ∨ j = 16 ∨ j = 17 ∨ j = 18 ∨ j = 19 ∨ j = 20 ∨ j = 21 ∨ j = 22 ∨ j = 23 ∨ j = 24 ∨ j = 25 ∨ j = 26 ∨ j = 27 ∨ j = 28 ∨ j = 29 ∨ j = 30 ∨ j = 31 ∨ j = 32 ∨ j = 33 ∨ j = 34 ∨ j = 35 ∨ j = 36 ∨ j = 37 ∨ j = 38 ∨ j = 39 ∨ j = 40 ∨ j = 41 ∨ j = 42 ∨ j = 43 ∨ j = 44 ∨ j = 45 ∨ j = 46 ∨ j = 47 by omega) with rfl | rfl | rfl | rfl | rfl | rfl | rfl | rfl | rfl | rfl | rfl | rfl | rfl | rfl | rfl | rfl | rfl | rfl | rfl | rfl | rfl | rfl | rfl | rfl | rfl | rfl | rfl | rfl | rfl | rfl | rfl | rfl | rfl | rfl | rfl | rfl | rfl | rfl | rfl | rfl | rfl | rfl | rfl | rfl | rfl | rfl | rfl | rfl <;> rfl
