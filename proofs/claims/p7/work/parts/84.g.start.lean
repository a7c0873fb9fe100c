/-! the start: what the tables and the Statement give of it -/
theorem st_inst : ∀ q ∈ ft_cl, Cond.instantiable q.1 q.2.2 ∈ lw_tbl := by decide +kernel
theorem st_arr : (ft_ak.all fun ty => match ty with
  | .object C => decide (Cond.arrayOver (.object C) ∈ lw_tbl)
  | t => decide (Cond.arrayClass t ∈ lw_tbl)) = true := by decide +kernel
theorem arrK {args : Array Value} {s : State} (hts : ∀ w ∈ lw_tbl, w.before args s = true) (ty : FieldType) : ∃ cA : ClassId, ty ∈ ft_ak → ArrOfT s cA ty ∧ va_RA s cA ty := by
  by_cases hty : ty ∈ ft_ak
  · have q := List.all_eq_true.mp st_arr ty hty
    split at q
    · rename_i C
      obtain ⟨comp, c, k, h1, h2, h3, h4, h5⟩ := Cond.arrayOver_spec (hts _ (of_decide_eq_true q))
      exact ⟨c, fun _ => ⟨fun n z => ⟨fun k h => (by cases h), k, h3, comp, h4⟩, k, comp, h3, h4, h1, h5⟩⟩
    · rename_i hno
      obtain ⟨cA, kA, comp, h1, h2, h3⟩ := Cond.arrayClass_spec (hts _ (of_decide_eq_true q))
      refine ⟨cA, fun _ => ⟨fun n z => ⟨fun k h => (by cases h), kA, h2, comp, h3⟩, ?_⟩⟩
      unfold va_RA
      split
      · exact absurd rfl (hno _)
      · exact h1
  · exact ⟨0, fun h => absurd h hty⟩
theorem clsK {args : Array Value} {s : State} (hts : ∀ w ∈ lw_tbl, w.before args s = true) (c : Nat) : ∃ (cC : ClassId) (iS : Nat → Nat), ∀ q : vw_C, ft_cl[c]? = some q → u_Kn s q.1 q.2.1 q.2.2 cC iS := by
  cases hq : ft_cl[c]? with
  | none => exact ⟨0, fun _ => 0, fun q h => by cases h⟩
  | some q =>
    have hm := List.mem_of_getElem? hq
    obtain ⟨cC, iS, h⟩ := u_known (C := q.1) (T := q.2.1) (N := q.2.2) (n := q.2.2) hts (fun w hw => (List.mem_filter.mp (ft_cl_in q hm w hw)).1) (hts _ (st_inst q hm))
    exact ⟨cC, iS, fun q' h' => by cases h'; exact h⟩
set_option maxRecDepth 100000 in
theorem ft_start {args : Array Value} {s : State} {b L : Nat} {xs : Nat → Int32} (hts : ∀ w ∈ lw_tbl, w.before args s = true) (hX : va_X b L xs s s.heap) (hbl : b < s.heap.size) (hgv : (Jvm.Cond.and given_1 narrow_1).before args s = true) : ∃ D : ft_G, ft_B D = s.heap.size ∧ D.2.2.2.2.2.1 = b ∧ dLen D = L ∧ ft_K D s := by
  have hA : ∀ a : Nat, a < s.heap.size → ¬ (fun q : Nat => s.heap.size ≤ q) a := fun a h => Nat.not_le.mpr h
  have hs := flat_of_before _ hgv
  have hi := hts (.initialized "FlowTalk") (by decide +kernel)
  obtain ⟨t0, e0, T0⟩ := va_Tof (tm := .static "FlowTalk" "AT_FIRST" "[I") (ty := .int) (N := 4) (f := fun j => .int (ft_sv 0 j)) (by decide) (hs (.arrayOf (.static "FlowTalk" "AT_FIRST" "[I") .int) (by decide +kernel)) (va_eqt (z := 4) (hs (.eq (.length (.static "FlowTalk" "AT_FIRST" "[I")) (.int 4)) (by decide +kernel))) (fun j hj => by
    rcases (show j = 0 ∨ j = 1 ∨ j = 2 ∨ j = 3 by omega) with rfl | rfl | rfl | rfl
    · exact va_eqt (hs (.eq (.elem (.static "FlowTalk" "AT_FIRST" "[I") (.int 0)) (.int 100)) (by decide +kernel))
    · exact va_eqt (hs (.eq (.elem (.static "FlowTalk" "AT_FIRST" "[I") (.int 1)) (.int 2)) (by decide +kernel))
    · exact va_eqt (hs (.eq (.elem (.static "FlowTalk" "AT_FIRST" "[I") (.int 2)) (.int 1)) (by decide +kernel))
    · exact va_eqt (hs (.eq (.elem (.static "FlowTalk" "AT_FIRST" "[I") (.int 3)) (.int 1)) (by decide +kernel))) hA
  obtain ⟨t1, e1, T1⟩ := va_Tof (tm := .static "FlowTalk" "LEAST" "[I") (ty := .int) (N := 4) (f := fun j => .int (ft_sv 1 j)) (by decide) (hs (.arrayOf (.static "FlowTalk" "LEAST" "[I") .int) (by decide +kernel)) (va_eqt (z := 4) (hs (.eq (.length (.static "FlowTalk" "LEAST" "[I")) (.int 4)) (by decide +kernel))) (fun j hj => by
    rcases (show j = 0 ∨ j = 1 ∨ j = 2 ∨ j = 3 by omega) with rfl | rfl | rfl | rfl
    · exact va_eqt (hs (.eq (.elem (.static "FlowTalk" "LEAST" "[I") (.int 0)) (.int 16)) (by decide +kernel))
    · exact va_eqt (hs (.eq (.elem (.static "FlowTalk" "LEAST" "[I") (.int 1)) (.int 1)) (by decide +kernel))
    · exact va_eqt (hs (.eq (.elem (.static "FlowTalk" "LEAST" "[I") (.int 2)) (.int 0)) (by decide +kernel))
    · exact va_eqt (hs (.eq (.elem (.static "FlowTalk" "LEAST" "[I") (.int 3)) (.int 1)) (by decide +kernel))) hA
  obtain ⟨t2, e2, T2⟩ := va_Tof (tm := .static "FlowTalk" "MOST" "[I") (ty := .int) (N := 4) (f := fun j => .int (ft_sv 2 j)) (by decide) (hs (.arrayOf (.static "FlowTalk" "MOST" "[I") .int) (by decide +kernel)) (va_eqt (z := 4) (hs (.eq (.length (.static "FlowTalk" "MOST" "[I")) (.int 4)) (by decide +kernel))) (fun j hj => by
    rcases (show j = 0 ∨ j = 1 ∨ j = 2 ∨ j = 3 by omega) with rfl | rfl | rfl | rfl
    · exact va_eqt (hs (.eq (.elem (.static "FlowTalk" "MOST" "[I") (.int 0)) (.int 255)) (by decide +kernel))
    · exact va_eqt (hs (.eq (.elem (.static "FlowTalk" "MOST" "[I") (.int 1)) (.int 20)) (by decide +kernel))
    · exact va_eqt (hs (.eq (.elem (.static "FlowTalk" "MOST" "[I") (.int 2)) (.int 1)) (by decide +kernel))
    · exact va_eqt (hs (.eq (.elem (.static "FlowTalk" "MOST" "[I") (.int 3)) (.int 2)) (by decide +kernel))) hA
  have Z0 := va_Zref (hts (.laysStatic "FlowTalk" "AT_FIRST" "[I") (by decide +kernel)) hi e0 hA
  have Z1 := va_Zref (hts (.laysStatic "FlowTalk" "LEAST" "[I") (by decide +kernel)) hi e1 hA
  have Z2 := va_Zref (hts (.laysStatic "FlowTalk" "MOST" "[I") (by decide +kernel)) hi e2 hA
  refine ⟨(fun c => Classical.choose (clsK hts c), fun c => Classical.choose (Classical.choose_spec (clsK hts c)), fun ty => Classical.choose (arrK hts ty), s.heap.size, fun k => if k = 0 then t0 else if k = 1 then t1 else t2, b, L, xs), rfl, rfl, rfl, ?_, ?_, ?_, ?_, hX, hbl, Nat.le_refl _⟩
  · intro c q hq
    exact Classical.choose_spec (Classical.choose_spec (clsK hts c)) q hq
  · intro ty hty
    exact Classical.choose_spec (arrK hts ty) hty
  · intro k q hq
    match k, hq with
    | 0, hq => cases hq; exact ⟨Z0, T0⟩
    | 1, hq => cases hq; exact ⟨Z1, T1⟩
    | 2, hq => cases hq; exact ⟨Z2, T2⟩
    | n + 3, hq => cases hq
  · intro w hw hn
    have hb := hts w (List.mem_filter.mp hw).1
    match w, hn, hb with
    | .methodLinkNest a i x hst, _, hb => exact hb
    | .fieldLinkNest a i b n d hst, _, hb => exact hb
    | .arrayOver (.object C), _, hb => exact hb
