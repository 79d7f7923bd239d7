
theorem wi_inn {k n m : Int32} (h : n.toInt = m.toInt + 1) : wi k n = inn k 0 m := by
  unfold wi inn
  by_cases h1 : k < 0
  · rw [if_pos h1, if_pos h1]
  · rw [if_neg h1, if_neg h1]
    by_cases h2 : k < n
    · rw [if_pos h2, if_neg]
      rw [Int32.lt_iff_toInt_lt] at h2 ⊢
      omega
    · rw [if_neg h2, if_pos]
      rw [Int32.lt_iff_toInt_lt] at h2 ⊢
      omega
theorem inn_eq {v lo hi : Int32} (a : Int32) {b c : Int32} : (if v < lo then b else if hi < v then b else c) = if inn v lo hi = 0 then b else c := by
  unfold inn
  by_cases h1 : v < lo
  · rw [if_pos h1, if_pos h1, if_pos rfl]
  · rw [if_neg h1, if_neg h1]
    by_cases h2 : hi < v
    · rw [if_pos h2, if_pos h2, if_pos rfl]
    · rw [if_neg h2, if_neg h2, if_neg (by decide)]
theorem e_end (n : Int32) : (if n < 0 then -1 else if 0 < n then -1 else n) = if inn n 0 0 = 0 then -1 else n := inn_eq 0
theorem e_party (a1 a2 : Int32) : (if a1 < 1 then (-1 : Int32) else if 6 < a1 then -1 else if a2 < 1 then -1 else if 200 < a2 then -1 else 0) = if inn a1 1 6 = 0 then -1 else if inn a2 1 200 = 0 then -1 else 0 := by
  rw [inn_eq (v := a2) 0, inn_eq (v := a1) 0]
theorem e_land (v : Int32) : (if v < 1 then (-1 : Int32) else if 500 < v then -1 else 0) = if inn v 1 500 = 0 then -1 else 0 := inn_eq 0
theorem e_storm (k b : Int32) : (if k < 0 then (0 : Int32) else if wi k 400 = 0 then 0 else if 0 = b then 0 else 1) = if inn k 0 399 = 0 then 0 else if 0 = b then 0 else 1 := by
  rw [wi_inn (m := 399) rfl]
  by_cases h : k < 0
  · rw [if_pos h]
    have h1 : inn k 0 399 = 0 := by unfold inn; rw [if_pos h]
    rw [if_pos h1]
  · rw [if_neg h]
theorem e_cp (n : Int32) : cp 0 n = mg n := by
  unfold cp mg
  rw [inn_eq (v := n) 0]
theorem e_days (n : Int32) : (if cp 0 n = 0 then -1 else n) = if mg n = 0 then -1 else n := by rw [e_cp]
theorem e_ahead (n w : Int32) : xAhead n w = if mg n = 0 then -2 else if inn w 0 2 = 0 then -2 else if w = 0 then -1 else 0 := by
  unfold xAhead
  rw [e_cp, inn_eq (v := w) 0]
theorem e_camp (k w : Int32) : xCamp k w = mCamp k w := by
  unfold xCamp mCamp
  rw [wi_inn (m := 15) rfl]
theorem e_image (k : Int32) : (if wi k 3 = 0 then (0 : Int32) else 1) = if inn k 0 2 = 0 then 0 else 1 := by rw [wi_inn (m := 2) rfl]
theorem e_nb {n k : Int32} (h : ¬ inn k 3 200 = 0) : nb n k = nb2 n k := by
  have hlo := inn_lo h
  have e : (if 1 < k - 2 then k - 2 else 1) = k - 2 := by
    by_cases h1 : 1 < k - 2
    · rw [if_pos h1]
    · rw [if_neg h1]
      obtain ⟨j, hj, rfl⟩ := vp_in_of (inn_in (a := 3) (b := 200) (N := 201) rfl rfl (by decide) h) (by decide)
      have h3 : ¬ j < 3 := fun q => hlo (nI_lt (b := 3) q (by decide))
      have e2 : nI j - 2 = nI (j - 2) := pk_sub (b := 2) (by omega)
      rw [e2] at h1 ⊢
      have h4 : ¬ 1 < j - 2 := fun q => h1 (nI_lt (a := 1) q (by omega))
      have h5 : j - 2 = 1 := by omega
      rw [h5]; rfl
  unfold nb nb2
  rw [e]
  have e3 : n + (k - 2) - 1 = n + k - 3 := by
    apply Int32.toBitVec_inj.mp
    simp only [Int32.toBitVec_add, Int32.toBitVec_sub]
    generalize n.toBitVec = x
    generalize k.toBitVec = y
    show x + (y - 2#32) - 1#32 = x + y - 3#32
    bv_omega
  rw [e3]
  generalize (n + k - 3) / (k - 2) = t
  congr 2
  by_cases h1 : 1 < t
  · rw [if_pos h1, if_neg]
    rw [Int32.lt_iff_toInt_lt] at h1 ⊢
    omega
  · rw [if_neg h1]
    by_cases h2 : t < 1
    · rw [if_pos h2]
    · rw [if_neg h2]
      apply Int32.toInt_inj.mp
      rw [Int32.lt_iff_toInt_lt] at h1 h2
      omega
theorem e_nd {k : Int32} (h : ¬ inn k 3 200 = 0) : ∀ j, nd k j = nd2 k j := by
  intro j
  induction j with
  | zero => rfl
  | succ j ih => show nb (nd k j) k = nb2 (nd2 k j) k; rw [ih, e_nb h]
theorem e_fr {k w : Int32} (h : ¬ inn k 3 200 = 0) : ∀ n j, fr k w n j = fr2 k w n j := by
  intro n
  induction n with
  | zero => intro j; rfl
  | succ n ih => intro j; rw [fr, fr2, e_nd h, ih]
theorem e_need (k w : Int32) : xNeed k w = if inn k 3 200 = 0 then -1 else if inn w 0 15 = 0 then -1 else nd2 k w.toNatClampNeg := by
  unfold xNeed
  by_cases h : inn k 3 200 = 0
  · rw [if_pos h, if_pos h]
  · rw [if_neg h, if_neg h, wi_inn (m := 15) rfl, e_nd h]
theorem e_far (k w : Int32) : xFar k w = if inn k 3 200 = 0 then -1 else if inn w 0 1000000 = 0 then -1 else fr2 k w 15 0 := by
  unfold xFar
  by_cases h : inn k 3 200 = 0
  · rw [if_pos h, if_pos h]
  · rw [if_neg h, if_neg h, inn_eq (v := w) 0, e_fr h]
theorem n_cases0_17 {x : Int32} (h : ¬ (x.toInt < 0 ∨ 17 < x.toInt)) : x = 0 ∨ x = 1 ∨ x = 2 ∨ x = 3 ∨ x = 4 ∨ x = 5 ∨ x = 6 ∨ x = 7 ∨ x = 8 ∨ x = 9 ∨ x = 10 ∨ x = 11 ∨ x = 12 ∨ x = 13 ∨ x = 14 ∨ x = 15 ∨ x = 16 ∨ x = 17 := by
  have e : ∀ y : Int32, x.toInt = y.toInt → x = y := fun y h => Int32.toInt_inj.mp h
  rcases (show x.toInt = 0 ∨ x.toInt = 1 ∨ x.toInt = 2 ∨ x.toInt = 3 ∨ x.toInt = 4 ∨ x.toInt = 5 ∨ x.toInt = 6 ∨ x.toInt = 7 ∨ x.toInt = 8 ∨ x.toInt = 9 ∨ x.toInt = 10 ∨ x.toInt = 11 ∨ x.toInt = 12 ∨ x.toInt = 13 ∨ x.toInt = 14 ∨ x.toInt = 15 ∨ x.toInt = 16 ∨ x.toInt = 17 by omega) with h | h | h | h | h | h | h | h | h | h | h | h | h | h | h | h | h | h
  · exact Or.inl (e 0 h)
  · exact Or.inr (Or.inl (e 1 h))
  · exact Or.inr (Or.inr (Or.inl (e 2 h)))
  · exact Or.inr (Or.inr (Or.inr (Or.inl (e 3 h))))
  · exact Or.inr (Or.inr (Or.inr (Or.inr (Or.inl (e 4 h)))))
  · exact Or.inr (Or.inr (Or.inr (Or.inr (Or.inr (Or.inl (e 5 h))))))
  · exact Or.inr (Or.inr (Or.inr (Or.inr (Or.inr (Or.inr (Or.inl (e 6 h)))))))
  · exact Or.inr (Or.inr (Or.inr (Or.inr (Or.inr (Or.inr (Or.inr (Or.inl (e 7 h))))))))
  · exact Or.inr (Or.inr (Or.inr (Or.inr (Or.inr (Or.inr (Or.inr (Or.inr (Or.inl (e 8 h)))))))))
  · exact Or.inr (Or.inr (Or.inr (Or.inr (Or.inr (Or.inr (Or.inr (Or.inr (Or.inr (Or.inl (e 9 h))))))))))
  · exact Or.inr (Or.inr (Or.inr (Or.inr (Or.inr (Or.inr (Or.inr (Or.inr (Or.inr (Or.inr (Or.inl (e 10 h)))))))))))
  · exact Or.inr (Or.inr (Or.inr (Or.inr (Or.inr (Or.inr (Or.inr (Or.inr (Or.inr (Or.inr (Or.inr (Or.inl (e 11 h))))))))))))
  · exact Or.inr (Or.inr (Or.inr (Or.inr (Or.inr (Or.inr (Or.inr (Or.inr (Or.inr (Or.inr (Or.inr (Or.inr (Or.inl (e 12 h)))))))))))))
  · exact Or.inr (Or.inr (Or.inr (Or.inr (Or.inr (Or.inr (Or.inr (Or.inr (Or.inr (Or.inr (Or.inr (Or.inr (Or.inr (Or.inl (e 13 h))))))))))))))
  · exact Or.inr (Or.inr (Or.inr (Or.inr (Or.inr (Or.inr (Or.inr (Or.inr (Or.inr (Or.inr (Or.inr (Or.inr (Or.inr (Or.inr (Or.inl (e 14 h)))))))))))))))
  · exact Or.inr (Or.inr (Or.inr (Or.inr (Or.inr (Or.inr (Or.inr (Or.inr (Or.inr (Or.inr (Or.inr (Or.inr (Or.inr (Or.inr (Or.inr (Or.inl (e 15 h))))))))))))))))
  · exact Or.inr (Or.inr (Or.inr (Or.inr (Or.inr (Or.inr (Or.inr (Or.inr (Or.inr (Or.inr (Or.inr (Or.inr (Or.inr (Or.inr (Or.inr (Or.inr (Or.inl (e 16 h)))))))))))))))))
  · exact Or.inr (Or.inr (Or.inr (Or.inr (Or.inr (Or.inr (Or.inr (Or.inr (Or.inr (Or.inr (Or.inr (Or.inr (Or.inr (Or.inr (Or.inr (Or.inr (Or.inr (e 17 h)))))))))))))))))
theorem tb_arr {s : State} {args : Array Value} {ty : FieldType} (hp : ∀ C : String, ty = .object C → False) (h : (Cond.arrayClass ty).before args s = true) : ∃ cA : ClassId, ArrOfT s cA ty ∧ va_RA s cA ty := by
  obtain ⟨cA, kA, comp, hf, hk, hkind⟩ := Cond.arrayClass_spec h
  refine ⟨cA, fun n z => ⟨fun k h => (by cases h), kA, hk, comp, hkind⟩, ?_⟩
  cases ty with
  | object C => exact (hp C rfl).elim
  | _ => exact hf
theorem tb_obj {s : State} {C : String} (h : va_AO C s) : ∃ cA : ClassId, ArrOfT s cA (.object C) ∧ va_RA s cA (.object C) := by
  obtain ⟨comp, cA, kA, h1, h2, h3, h4, h5⟩ := Cond.arrayOver_spec h
  exact ⟨cA, fun n z => ⟨fun k h => (by cases h), kA, h3, comp, h4⟩, kA, comp, h3, h4, h1, h5⟩
set_option maxRecDepth 100000 in
theorem lit_in (j : Nat) (hj : j < 99) : (Cond.eq (.elem (.field (.string "DepotMarchModel" 114) "java/lang/String" "value" "[B") (.int (Int32.ofNat j))) (.int (wdB.getD j 0))) ∈ flatC (Jvm.Cond.and given_1 narrow_1) := va_run (N := 99) (p := 137) (f := fun j => Cond.eq (.elem (.field (.string "DepotMarchModel" 114) "java/lang/String" "value" "[B") (.int (Int32.ofNat j))) (.int (wdB.getD j 0))) (by decide +kernel) j hj
