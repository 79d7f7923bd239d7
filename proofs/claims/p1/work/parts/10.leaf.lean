theorem dX7_within_0 : decode cX7_within 0 = .ok (.iload_n 0, 1) := by decide +kernel
theorem dX7_within_1 : decode cX7_within 1 = .ok (.ifCond .lt 12, 3) := by decide +kernel
theorem dX7_within_13 : decode cX7_within 13 = .ok (.iconst 0, 1) := by decide +kernel
theorem dX7_within_14 : decode cX7_within 14 = .ok (.ireturn, 1) := by decide +kernel
theorem dX7_within_4 : decode cX7_within 4 = .ok (.iload_n 0, 1) := by decide +kernel
theorem dX7_within_5 : decode cX7_within 5 = .ok (.iload_n 1, 1) := by decide +kernel
theorem dX7_within_6 : decode cX7_within 6 = .ok (.if_icmp .ge 7, 3) := by decide +kernel
theorem dX7_within_9 : decode cX7_within 9 = .ok (.iconst 1, 1) := by decide +kernel
theorem dX7_within_10 : decode cX7_within 10 = .ok (.goto 4, 3) := by decide +kernel
theorem dX4_amount_0 : decode cX4_amount 0 = .ok (.iload_n 1, 1) := by decide +kernel
theorem dX4_amount_1 : decode cX4_amount 1 = .ok (.bipush 22, 2) := by decide +kernel
theorem dX4_amount_3 : decode cX4_amount 3 = .ok (.invokestatic 49, 3) := by decide +kernel
theorem dX4_amount_6 : decode cX4_amount 6 = .ok (.ifCond .eq 12, 3) := by decide +kernel
theorem dX4_amount_18 : decode cX4_amount 18 = .ok (.iconst 0, 1) := by decide +kernel
theorem dX4_amount_19 : decode cX4_amount 19 = .ok (.ireturn, 1) := by decide +kernel
theorem dX4_amount_9 : decode cX4_amount 9 = .ok (.aload_n 0, 1) := by decide +kernel
theorem dX4_amount_10 : decode cX4_amount 10 = .ok (.getfield 18, 3) := by decide +kernel
theorem dX4_amount_13 : decode cX4_amount 13 = .ok (.iload_n 1, 1) := by decide +kernel
theorem dX4_amount_14 : decode cX4_amount 14 = .ok (.iaload, 1) := by decide +kernel
theorem dX4_amount_15 : decode cX4_amount 15 = .ok (.goto 4, 3) := by decide +kernel
theorem dJ7_fill_53178_0 : decode cJ7_fill_53178 0 = .ok (.iconst 0, 1) := by decide +kernel
theorem dJ7_fill_53178_1 : decode cJ7_fill_53178 1 = .ok (.istore_n 2, 1) := by decide +kernel
theorem dJ7_fill_53178_2 : decode cJ7_fill_53178 2 = .ok (.aload_n 0, 1) := by decide +kernel
theorem dJ7_fill_53178_3 : decode cJ7_fill_53178 3 = .ok (.arraylength, 1) := by decide +kernel
theorem dJ7_fill_53178_4 : decode cJ7_fill_53178 4 = .ok (.istore_n 3, 1) := by decide +kernel
theorem dJ7_fill_53178_5 : decode cJ7_fill_53178 5 = .ok (.iload_n 2, 1) := by decide +kernel
theorem dJ7_fill_53178_6 : decode cJ7_fill_53178 6 = .ok (.iload_n 3, 1) := by decide +kernel
theorem dJ7_fill_53178_7 : decode cJ7_fill_53178 7 = .ok (.if_icmp .ge 13, 3) := by decide +kernel
theorem dJ7_fill_53178_20 : decode cJ7_fill_53178 20 = .ok (.return_, 1) := by decide +kernel
theorem dJ7_fill_53178_10 : decode cJ7_fill_53178 10 = .ok (.aload_n 0, 1) := by decide +kernel
theorem dJ7_fill_53178_11 : decode cJ7_fill_53178 11 = .ok (.iload_n 2, 1) := by decide +kernel
theorem dJ7_fill_53178_12 : decode cJ7_fill_53178 12 = .ok (.iload_n 1, 1) := by decide +kernel
theorem dJ7_fill_53178_13 : decode cJ7_fill_53178 13 = .ok (.iastore, 1) := by decide +kernel
theorem dJ7_fill_53178_14 : decode cJ7_fill_53178 14 = .ok (.iinc 2 1, 3) := by decide +kernel
theorem dJ7_fill_53178_17 : decode cJ7_fill_53178 17 = .ok (.goto (-12), 3) := by decide +kernel
/-- within: 1 if 0 ≤ i < n, else 0 -/
def wi (i n : Int32) : Int32 := if i < 0 then 0 else if i < n then 1 else 0
theorem wi_in {i : Int32} {n : Int32} {N : Nat} (hn : n.toInt = N) (h : ¬ wi i n = 0) : vp_in i N := by
  unfold wi at h
  by_cases h1 : i < 0
  · rw [if_pos h1] at h; exact absurd rfl h
  · rw [if_neg h1] at h
    by_cases h2 : i < n
    · rw [vp_in_iff]
      rw [Int32.lt_iff_toInt_lt] at h1 h2
      have h0 : (0 : Int32).toInt = 0 := rfl
      omega
    · rw [if_neg h2] at h; exact absurd rfl h
theorem wi_0 (i : Int32) : wi i 0 = 0 := by
  unfold wi
  by_cases h1 : i < 0
  · rw [if_pos h1]
  · rw [if_neg h1, if_neg h1]
theorem up_at {g : Nat → Int32} {k : Nat} {v : Int32} (hk : k < 2 ^ 31) (h : ∀ j, j < k → g j = v) : ∀ j, j < k + 1 → upd g (nI k).toNatClampNeg v j = v := by
  intro j hj
  rw [nI_clamp hk]
  by_cases hjk : j = k
  · subst hjk; exact pk_us
  · rw [pk_un hjk]; exact h j (by omega)

def vs_within : List Cond := [.code yX7_within cX7_within 2 (some .boolean)]
set_option maxHeartbeats 4000000 in
set_option maxRecDepth 100000 in
theorem c_within (l : Launch) (dC : Nat → ClassId) (dI : Nat → Nat → Nat) (cI cZ cB cJ cP cW : ClassId) (i : Int32) (n : Int32) : Met l yX7_within vs_within ({ frames := 1, cells := 0, slots := 0, locals := 60 }) (va_Pc [.int i, .int n] (fun U => EV dC dI cI cZ cB cJ cP cW U ∧ va_P (dC, dI) vwCl [] U.heap)) (vp_Si (fun r => r = wi i n)) 0 0 (fun _ => False) := by
  refine Met.ofW (cc := cX7_within) (maxL := 2) (ret := (some .boolean)) (by decide) rfl ?_
  intro p e s m args below meth c s₁ B hml hv
  obtain ⟨rfl, hE, hP⟩ := hv
  have hx := B.exec
  have hb := B.bytes
  have hr := B.returns
  have hts := atoms_spec (ws := vs_within) B.pre
  have hown : s.vm.findClass RX7 = some m.cls := findClass_of_methodNamed B.named
  have hlocks := B.notSynchronized
  have hK := hE.2
  have hA : True := trivial
  have hS : va_S (fun _ => False) s.heap s.heap [] := va_S.rf
  have hl := lv_entry ([.int i, .int n]) (n := 2) (Nat.le_of_ble_eq_true rfl)
  rw [lg_entry_eq]
  generalize (lg_sl ([.int i, .int n]) ++ List.replicate (2 - (lg_sl ([.int i, .int n])).length) Slot.unset).toArray = ls at hl ⊢
  have hl : lv_has ls 2 [(0, .int i), (1, .int n)] := hl
  refine lv_iload_n hx hb dX7_within_0 rfl (lv_at hl 0 rfl) ?_
  refine lv_if_lt (tgt := 13) hx hb dX7_within_1 (by decide) (fun c1 => ?_) (fun c1 => ?_)
  · refine lv_iconst (v := 0) hx hb dX7_within_13 (by decide) ?_
    exact W.zret (v := 0) hx hb hr rfl (fun t ht hW => ⟨0, rfl, (by simp [wi, c1]), ht⟩) (fun q h => by cases h) dX7_within_14
  · refine lv_iload_n hx hb dX7_within_4 rfl (lv_at hl 0 rfl) ?_
    refine lv_iload_n hx hb dX7_within_5 rfl (lv_at hl 1 rfl) ?_
    refine lv_icmp_ge (tgt := 13) hx hb dX7_within_6 (by decide) (fun c2 => ?_) (fun c2 => ?_)
    · refine lv_iconst (v := 0) hx hb dX7_within_13 (by decide) ?_
      exact W.zret (v := 0) hx hb hr rfl (fun t ht hW => ⟨0, rfl, (by simp [wi, c1, (Int32.not_lt.mpr c2)]), ht⟩) (fun q h => by cases h) dX7_within_14
    · refine lv_iconst (v := 1) hx hb dX7_within_9 (by decide) ?_
      refine lv_goto (tgt := 14) hx hb dX7_within_10 (by decide) ?_
      exact W.zret (v := 1) hx hb hr rfl (fun t ht hW => ⟨1, rfl, (by simp [wi, c1, (Int32.not_le.mp c2)]), ht⟩) (fun q h => by cases h) dX7_within_14

def vs_amount : List Cond := [.code yX4_amount cX4_amount 2 (some .int), .code yX7_within cX7_within 2 (some .boolean), .initialized RX7, .static yX7_within, .fieldLink RX4 18 "DepotMarch$Rows" "amounts" "[I"] ++ (wsX40)
theorem in_amount_X4 : ∀ w ∈ u_ws RX4 TX4 8, w ∈ vs_amount := fun w h => List.mem_append_right _ (h)
set_option maxRecDepth 20000 in
theorem gg_amount_within : GoodIn vs_amount vs_within := goodIn_r _ [1] (by decide +kernel) (by decide +kernel)
set_option maxHeartbeats 4000000 in
set_option maxRecDepth 100000 in
theorem c_amount (l : Launch) (dC : Nat → ClassId) (dI : Nat → Nat → Nat) (cI cZ cB cJ cP cW : ClassId) (q : Nat → Nat) (f : Nat → Int32) (row : Int32) : Met l yX4_amount vs_amount ({ frames := 2, cells := 0, slots := 0, locals := 120 }) (va_Pc [.ref (q 1), .int row] (fun U => EV dC dI cI cZ cB cJ cP cW U ∧ va_P (dC, dI) vwCl [((q 1), .inr (4, [.ref (q 2), .ref (q 3), .ref (q 4), .ref (q 5), .ref (q 6), .ref (q 7), .int 0, .int (-1)])), ((q 4), .inl (cI, 22, .inl f))] U.heap)) (vp_Si (fun r => r = if wi row 22 = 0 then 0 else f row.toNatClampNeg)) 0 0 (fun _ => False) := by
  refine Met.ofW (cc := cX4_amount) (maxL := 2) (ret := (some .int)) (by decide) rfl ?_
  intro p e s m args below meth c s₁ B hml hv
  obtain ⟨rfl, hE, hP⟩ := hv
  have hx := B.exec
  have hb := B.bytes
  have hr := B.returns
  have hts := atoms_spec (ws := vs_amount) B.pre
  have hown : s.vm.findClass RX4 = some m.cls := findClass_of_methodNamed B.named
  have hlocks := B.notSynchronized
  have hK := hE.2
  have hA : True := trivial
  have hS : va_S (fun _ => False) s.heap s.heap [] := va_S.rf
  have hl := lv_entry ([.ref (q 1), .int row]) (n := 2) (Nat.le_of_ble_eq_true rfl)
  rw [lg_entry_eq]
  generalize (lg_sl ([.ref (q 1), .int row]) ++ List.replicate (2 - (lg_sl ([.ref (q 1), .int row])).length) Slot.unset).toArray = ls at hl ⊢
  have hl : lv_has ls 2 [(0, .ref (q 1)), (1, .int row)] := hl
  refine lv_iload_n hx hb dX4_amount_0 rfl (lv_at hl 1 rfl) ?_
  refine lv_bipush (v := 22) hx hb dX4_amount_1 (by decide) ?_
  refine vp_callSi (va_Run.run (va_runSN (As := [.int row, .int 22]) (rest := []) ⟨hx, hb, hml, hown, hts⟩ (c_within l dC dI cI cZ cB cJ cP cW row 22) ⟨(va_cnB 2 hts gg_amount_within rfl rfl rfl hE.1.n_Rows_49 (hts (.initialized RX7) (by decide +kernel)) (by decide +kernel) ⟨Nat.le_of_ble_eq_true rfl, Nat.le_of_ble_eq_true rfl⟩), (hts (.static yX7_within) (by decide +kernel)), trivial⟩ ⟨fbR, fun U hU hW => ⟨rfl, hE.warm hW, by rw [hU]; exact (fun k q h => by simp at h)⟩⟩ rfl rfl hl.1 rfl (lv_room (Nat.le_of_ble_eq_true rfl)) dX4_amount_3 ⟨Nat.le_of_ble_eq_true rfl, Nat.le_of_ble_eq_true rfl⟩)) (fun r1 hr1 => ?_)
  refine lv_if_eq (tgt := 18) hx hb dX4_amount_6 (by decide) (fun c2 => ?_) (fun c2 => ?_)
  · refine lv_iconst (v := 0) hx hb dX4_amount_18 (by decide) ?_
    exact W.iret (v := 0) hx hb hr (fun t ht hW => ⟨0, rfl, (by rw [← hr1]; simp [c2]), ht⟩) (fun q h => by cases h) dX4_amount_19
  · refine lv_aload_n hx hb dX4_amount_9 rfl (lv_at hl 0 rfl) ?_
    refine va_get (D := (dC, dI)) (ci := 4) (v := .ref (q 4)) (C := RX4) (T := TX4) (N := 8) hx hb hts in_amount_X4 hown hK hP 0 rfl rfl 2 (by decide) (hts (.fieldLink RX4 18 "DepotMarch$Rows" "amounts" "[I") (by decide +kernel)) (fun _ h9 => h9) rfl dX4_amount_10 ?_
    refine lv_iload_n hx hb dX4_amount_13 rfl (lv_at hl 1 rfl) ?_
    refine va_iald hx hb hK hP 1 0 rfl rfl (wi_in (N := 22) rfl (by rw [← hr1]; exact c2)) dX4_amount_14 ?_
    refine lv_topi (fun x3 ex3 => ?_)
    refine lv_goto (tgt := 19) hx hb dX4_amount_15 (by decide) ?_
    exact W.iret (v := x3) hx hb hr (fun t ht hW => ⟨x3, rfl, (by rw [← hr1, if_neg c2]; exact ex3), ht⟩) (fun q h => by cases h) dX4_amount_19

def vs_fill : List Cond := [.code yJ7_fill_53178 cJ7_fill_53178 4 none]
set_option maxHeartbeats 4000000 in
set_option maxRecDepth 100000 in
theorem c_fill (l : Launch) (dC : Nat → ClassId) (dI : Nat → Nat → Nat) (cI cZ cB cJ cP cW : ClassId) (a : Nat) (N : Nat) (f : Nat → Int32) (v : Int32) (sz : Nat) (hN : N < 2 ^ 31) : Met l yJ7_fill_53178 vs_fill ({ frames := 1, cells := 0, slots := 0, locals := 60 }) (va_Pc [.ref a, .int v] (fun U => U.heap.size = sz ∧ EV dC dI cI cZ cB cJ cP cW U ∧ va_P (dC, dI) vwCl [(a, .inl (cI, N, .inl f))] U.heap ∧ va_D (fun _ => True) [(a, .inl (cI, N, .inl f))])) (va_Qv (fun (u : Unit) => True) (fun u t => va_P (dC, dI) vwCl [(a, .inl (cI, N, .inl (fun _ => v)))] t.heap ∧ va_D (va_A [(a, .inl (cI, N, .inl f))] sz) [(a, .inl (cI, N, .inl (fun _ => v)))]) (va_A [(a, .inl (cI, N, .inl f))] sz)) 0 0 (va_A [(a, .inl (cI, N, .inl f))] sz) := by
  refine Met.ofW (cc := cJ7_fill_53178) (maxL := 4) (ret := none) (by decide) rfl ?_
  intro p e s m args below meth c s₁ B hml hv
  obtain ⟨rfl, hsz, hE, hP, hD0⟩ := hv
  have hx := B.exec
  have hb := B.bytes
  have hr := B.returns
  have hts := atoms_spec (ws := vs_fill) B.pre
  have hown : s.vm.findClass RJ7 = some m.cls := findClass_of_methodNamed B.named
  have hlocks := B.notSynchronized
  have hK := hE.2
  subst hsz
  have hD := hD0.self (sz := s.heap.size)
  generalize hAe : va_A [(a, .inl (cI, N, .inl f))] s.heap.size = A at hD ⊢
  have hA : ∀ q : Nat, s.heap.size ≤ q → A q := fun q h => by rw [← hAe]; exact Or.inr h
  have hS : va_S A s.heap s.heap [] := va_S.rf
  have hl := lv_entry ([.ref a, .int v]) (n := 4) (Nat.le_of_ble_eq_true rfl)
  rw [lg_entry_eq]
  generalize (lg_sl ([.ref a, .int v]) ++ List.replicate (4 - (lg_sl ([.ref a, .int v])).length) Slot.unset).toArray = ls at hl ⊢
  have hl : lv_has ls 4 [(0, .ref a), (1, .int v)] := hl
  refine lv_iconst (v := 0) hx hb dJ7_fill_53178_0 (by decide) ?_
  refine lv_istore_n (lv' := [(2, .int 0), (0, .ref a), (1, .int v)]) hx hb dJ7_fill_53178_1 rfl hl (by decide) rfl (fun ls hl => ?_)
  refine lv_aload_n hx hb dJ7_fill_53178_2 rfl (lv_at hl 1 rfl) ?_
  refine va_alen hx hb hK hP 0 0 rfl rfl (v := (nI N)) rfl dJ7_fill_53178_3 ?_
  refine lv_istore_n (lv' := [(3, .int (nI N)), (2, .int 0), (0, .ref a), (1, .int v)]) hx hb dJ7_fill_53178_4 rfl hl (by decide) rfl (fun ls hl => ?_)
  have hl := lv_sub hl [2, 3, 1, 0] rfl
  refine W_loop (σ := Nat × (Nat → Int32)) (fun x9 => match x9 with | (k, g) => N - k) (fun x9 H1 locs ls => match x9 with | (k, g) => (k ≤ N ∧ ∀ j, j < k → g j = v) ∧ va_P (dC, dI) vwCl [(a, .inl (cI, N, .inl g))] H1 ∧ va_D A [(a, .inl (cI, N, .inl g))] ∧ va_S A s.heap H1 locs ∧ lv_has ls 4 [(0, .ref a), (1, .int v), (2, .int (nI k)), (3, .int (nI N))]) (fun x9 H1 locs ls hI9 ih => ?_) (0, f) _ _ _ ⟨⟨Nat.zero_le _, fun j hj => absurd hj (Nat.not_lt_zero j)⟩, hP.sub [0] rfl, hD.sub [0] (by decide) rfl, hS, hl⟩
  obtain ⟨k, g⟩ := x9
  dsimp only at hI9
  obtain ⟨hinv, hP, hD, hS, hl⟩ := hI9
  refine lv_iload_n hx hb dJ7_fill_53178_5 rfl (lv_at hl 2 rfl) ?_
  refine lv_iload_n hx hb dJ7_fill_53178_6 rfl (lv_at hl 3 rfl) ?_
  refine lv_icmp_ge (tgt := 20) hx hb dJ7_fill_53178_7 (by decide) (fun c2 => ?_) (fun c2 => ?_)
  · have hkN : k = N := Nat.le_antisymm hinv.1 (Nat.le_of_not_lt (fun h => absurd c2 (nI_ge h hN)))
    obtain ⟨hP, hD⟩ := n_arr (w0 := []) (w1 := []) (f := g) (g := (fun _ => v)) (fun j hj => hinv.2 j (by omega)) hP hD
    have hP : va_P (dC, dI) vwCl [(a, .inl (cI, N, .inl (fun _ => v)))] H1 := hP
    have hD : va_D A [(a, .inl (cI, N, .inl (fun _ => v)))] := hD
    have hP9 := hP.sub (ws' := [(a, .inl (cI, N, .inl (fun _ => v)))]) [0] rfl
    have hD9 := hD.sub (ws' := [(a, .inl (cI, N, .inl (fun _ => v)))]) [0] (by decide) rfl
    refine W.widen (k := 0) (n := 0) (by decide) (by decide) ?_
    exact W.vret hx hb hr (fun t ht hW => ⟨⟨(), rfl, trivial, by rw [ht]; exact hP9, hD9⟩, hS.F ht⟩) hS.2.2 dJ7_fill_53178_20
  · have hkN : k < N := Nat.lt_of_not_le (fun h => absurd (nI_le h (by omega)) c2)
    refine lv_aload_n hx hb dJ7_fill_53178_10 rfl (lv_at hl 0 rfl) ?_
    refine lv_iload_n hx hb dJ7_fill_53178_11 rfl (lv_at hl 2 rfl) ?_
    refine lv_iload_n hx hb dJ7_fill_53178_12 rfl (lv_at hl 1 rfl) ?_
    refine va_iast hx hb hK hP hD hS 0 0 rfl rfl (vp_in_nI hkN hN) dJ7_fill_53178_13 (fun H3 locs hP hD hS => ?_)
    have hP : va_P (dC, dI) vwCl [(a, .inl (cI, N, .inl (upd g (nI k).toNatClampNeg v)))] H3 := hP
    have hD : va_D A [(a, .inl (cI, N, .inl (upd g (nI k).toNatClampNeg v)))] := hD
    refine lv_iinc (v := (nI (k + 1))) (lv' := [(2, .int (nI (k + 1))), (0, .ref a), (1, .int v), (3, .int (nI N))]) hx hb dJ7_fill_53178_14 hl (k := 2) rfl (nI_1 k) (by decide) rfl (fun ls hl => ?_)
    refine lv_goto (tgt := 5) hx hb dJ7_fill_53178_17 (by decide) ?_
    exact ih (k + 1, upd g (nI k).toNatClampNeg v) _ _ _ ⟨⟨hkN, up_at (by omega) hinv.2⟩, hP.sub [0] rfl, hD.sub [0] (by decide) rfl, hS, lv_sub hl [1, 2, 0, 3] rfl⟩ (by show N - (k + 1) < N - k; omega)
