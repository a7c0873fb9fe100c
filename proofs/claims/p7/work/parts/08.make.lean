def ft_row (h : ft_H) (a : Nat) (f : Nat → Value) : ft_H := (fun b j => if b = a then f j else h.1 b j, h.2)
section FTN
variable {D : ft_G} {y pc : Nat} {lv : List (Nat × Value)} {r : List Value} {h : ft_H} {uc us : Nat} {Q : Option Value → ft_H → Prop}
theorem sm_newO {ix ci g : Nat} (hd : decode (ft_m y).2.1 pc = .ok (.new ix, 3)) (hci : ci < ft_nc) (hcl : Cond.classLink (ft_m y).1.cls ix (ft_cd ci).1 ∈ ft_tb) (hins : Cond.instantiable (ft_cd ci).1 (ft_cd ci).2.2 ∈ ft_tb) (hini : Cond.initialized (ft_cd ci).1 ∈ ft_tb) (h1 : uc + 1 ≤ ft_mc y) (h2 : us + (ft_cd ci).2.2 ≤ ft_mz y)
    (k : sm D y (pc + 3) lv (.ref h.2.2 :: r) (ft_new h (ci + 1, g) (fun k => defaultValue (ft_ty ci k))) (uc + 1) (us + (ft_cd ci).2.2) Q) : sm D y pc lv r h uc us Q := by
  intro p l e R s m args below meth c H locs Z ls C rt hl hA hS
  have hc1 := C.2.2.2.2.2.2.2.2.2.2.2.1
  have hc2 := C.2.2.2.2.2.2.2.2.2.2.2.2.1
  have hc := ft_cd_at hci
  have hKn := C.2.2.2.2.2.1.1 ci _ hc
  refine W.newcK C.1 C.2.1 C.2.2.2.1 (C.2.2.2.2.1 _ hcl) (C.2.2.2.2.1 _ hins) (C.2.2.2.2.1 _ hini) rfl hd (Nat.le_trans h1 hc1) (Nat.le_trans h2 hc2) hKn.2.1 hA.1 fun H1 kC hkC e1 z1 o1 => ?_
  refine k p l e R s m args below meth c H1 locs Z ls C rt hl (hA.new (by rw [z1, hA.1]) (fun q hq => o1 q (by rw [← hA.1]; exact hq)) ?_) ⟨Nat.le_trans hS.1 (by rw [z1, hA.1]; omega), fun x q1 q2 => (o1 x (by rw [← hA.1]; exact Nat.lt_of_lt_of_le q1 hS.1)).trans (hS.2.1 x q1 q2), hS.2.2⟩
  unfold ft_at
  rw [ft_new_K, ft_new_V]
  simp only [ft_kd_obj hci]
  exact ⟨_, hc, u_born (ft_ty ci) C.2.2.2.2.1 (ft_cl_in _ (List.mem_of_getElem? hc)) hKn hkC e1 (ft_tok ci hci)⟩
theorem sm_newQ {ix ci kd : Nat} {n : Int32} {N : Nat} (hd : decode (ft_m y).2.1 pc = .ok (.anewarray ix, 3)) (hcl : Cond.classLink (ft_m y).1.cls ix (ft_cd ci).1 ∈ ft_tb) (hov : Cond.arrayOver (.object (ft_cd ci).1) ∈ ft_tb) (hkd : ft_kd kd = some (.inr (.object (ft_cd ci).1))) (hn : ¬ n < 0) (hN : n.toNatClampNeg = N) (hb : N * 4 ≤ 536870912) (h1 : uc + 1 ≤ ft_mc y) (h2 : us + N ≤ ft_mz y)
    (k : sm D y (pc + 3) lv (.ref h.2.2 :: r) (ft_new h (kd, N) (fun _ => .null)) (uc + 1) (us + N) Q) : sm D y pc lv (.int n :: r) h uc us Q := by
  subst hN
  intro p l e R s m args below meth c H locs Z ls C rt hl hA hS
  have hc1 := C.2.2.2.2.2.2.2.2.2.2.2.1
  have hc2 := C.2.2.2.2.2.2.2.2.2.2.2.2.1
  refine W.anew C.1 C.2.1 C.2.2.2.1 (C.2.2.2.2.1 _ hcl) (C.2.2.2.2.1 _ hov) rfl hd rfl hn hb (Nat.le_trans h1 hc1) (Nat.le_trans h2 hc2) fun cA kA comp f1 f2 f3 f4 => ?_
  obtain ⟨kA', comp', -, -, -, g4⟩ := (C.2.2.2.2.2.1.2.1 _ (ft_kd_mem hkd)).2
  have hcc : cA = D.2.2.1 (.object (ft_cd ci).1) := Option.some.inj (f1.symm.trans g4)
  subst hcc
  generalize hH1 : H.push ({ cls := D.2.2.1 (.object (ft_cd ci).1), slots := Array.replicate n.toNatClampNeg .null, vm := .none } : Cell) = H1
  have z1 : H1.size = H.size + 1 := by rw [← hH1, Array.size_push]
  have e1 : H1[H.size]? = some (arrV (D.2.2.1 (.object (ft_cd ci).1)) n.toNatClampNeg (fun _ => .null)) := by rw [← hH1, Array.getElem?_push_size, ← arrV_new]
  have o1 : ∀ q : Nat, q < H.size → H1[q]? = H[q]? := fun q hq => by rw [← hH1, Array.getElem?_push, if_neg (Nat.ne_of_lt hq)]
  have g := k p l e R s m args below meth c H1 locs Z ls C rt hl (hA.new z1 o1 ?_) ⟨Nat.le_trans hS.1 (by rw [z1]; omega), fun x q1 q2 => (o1 x (Nat.lt_of_lt_of_le q1 hS.1)).trans (hS.2.1 x q1 q2), hS.2.2⟩
  · rw [← hA.1] at g
    exact g
  · unfold ft_at
    rw [ft_new_K, ft_new_V]
    simp only [hkd]
    rw [← hA.1]
    exact e1
theorem sm_copy {ix a0 a : Nat} {sp dp n : Int32} (hd : decode (ft_m y).2.1 pc = .ok (.invokestatic ix, 3)) (hl1 : Cond.methodLink (ft_m y).1.cls ix arraycopyName ∈ ft_tb) (hl2 : Cond.native arraycopyName ∈ ft_tb) (hl3 : Cond.static arraycopyName ∈ ft_tb) (hl4 : Cond.initialized "java/lang/System" ∈ ft_tb)
    (hk0 : ft_kd (h.2.1 a0).1 = some (.inr .int)) (hk1 : ft_kd (h.2.1 a).1 = some (.inr .int)) (hB : ft_B D ≤ a) (h1 : ¬ sp < 0) (h2 : ¬ dp < 0) (h3 : ¬ n < 0) (h4 : sp.toNatClampNeg + n.toNatClampNeg ≤ (h.2.1 a0).2) (h5 : dp.toNatClampNeg + n.toNatClampNeg ≤ (h.2.1 a).2) (hfit : ∀ i, i < n.toNatClampNeg → ∃ x : Int32, h.1 a0 (sp.toNatClampNeg + i) = .int x)
    (hf : 1 ≤ (ft_m y).2.2.2.2.1) (hw : (r.map fun v => v.category).sum + (nativeFrameWords "java/lang/System" "arraycopy" 5 + 11) ≤ (ft_m y).2.2.2.2.2.1)
    (k : sm D y (pc + 3) lv r (ft_row h a (va_cpy (h.1 a0) (h.1 a) sp.toNatClampNeg dp.toNatClampNeg n.toNatClampNeg)) uc us Q) : sm D y pc lv (.int n :: .int dp :: .ref a :: .int sp :: .ref a0 :: r) h uc us Q := by
  intro p l e R s m args below meth c H locs Z ls C rt hl hA hS
  have nn : ∀ z : Int32, ¬ z < 0 → z.toInt = (z.toNatClampNeg : Int) := by
    intro z hz
    have hz0 : (0 : Int) ≤ z.toInt := by
      have := Int32.not_lt.mp hz
      simpa using Int32.le_iff_toInt_le.mp this
    show z.toInt = ((z.toInt.toNat : Nat) : Int)
    omega
  intro T hT X
  have hc0 := hA.arr hk0
  have hc1 := hA.arr hk1
  obtain ⟨-, k0, hq0, cm0, hkk0⟩ := (C.2.2.2.2.2.1.2.1 _ (ft_kd_mem hk0)).1 (h.2.1 a0).2 (h.1 a0)
  have hfr := Nat.le_trans hf C.2.2.2.2.2.2.2.2.2.1
  have hlo := Nat.le_trans hw C.2.2.2.2.2.2.2.2.2.2.1
  obtain ⟨vm', X', step⟩ := X.arraycopy C.1 C.2.2.2.1 (C.2.2.2.2.1 _ hl1) (C.2.2.2.2.1 _ hl2) (C.2.2.2.2.1 _ hl3) (C.2.2.2.2.1 _ hl4) (src := a0) (dst := a) (cs := arrV (D.2.2.1 .int) (h.2.1 a0).2 (h.1 a0)) (cd := arrV (D.2.2.1 .int) (h.2.1 a).2 (h.1 a)) (srcPos := sp) (destPos := dp) (n := n) (by rw [hT]; exact hc0) (by rw [hT]; exact hc1)
    (fun _ h => by cases h) (fun _ h => by cases h) (fun h => by cases h) (fun h => by cases h) hq0 hq0 hkk0 hkk0 (by simp [refKind]) h1 h2 h3
    (by rw [nn sp h1, nn n h3, arrV_size]; omega)
    (by rw [nn dp h2, nn n h3, arrV_size]; omega)
    (fun vm₁ _ i hi => by
      obtain ⟨x, hx⟩ := hfit i hi
      have e : (arrV (D.2.2.1 .int) (h.2.1 a0).2 (h.1 a0)).slots.getD (sp.toNatClampNeg + i) .null = .int x := by
        rw [Array.getD_eq_getD_getElem?, arrV_read _ _ (by omega), hx]
        rfl
      refine ⟨?_, ?_⟩
      · rw [e]
        rfl
      · rw [e]
        exact trivial)
    (g := F0 m pc ls (.int n :: .int dp :: .ref a :: .int sp :: .ref a0 :: r)) rfl (by rw [C.2.2.1]; exact hl.1) (rest := r) rfl (by rw [C.2.1]; exact hd) hfr (by show 2 * 0 + _ + _ ≤ _; omega)
  have e1 : copied (arrV (D.2.2.1 .int) (h.2.1 a0).2 (h.1 a0)) (arrV (D.2.2.1 .int) (h.2.1 a).2 (h.1 a)) sp dp n = arrV (D.2.2.1 .int) (h.2.1 a).2 (va_cpy (h.1 a0) (h.1 a) sp.toNatClampNeg dp.toNatClampNeg n.toNatClampNeg) := va_copied (fun z => z) _ _ (h.1 a0) (h.1 a) h4
  rw [e1] at X' step
  have hal : a < H.size := (Array.getElem?_eq_some_iff.mp hc1).1
  generalize va_cpy (h.1 a0) (h.1 a) sp.toNatClampNeg dp.toNatClampNeg n.toNatClampNeg = fc at k X' step
  have oq : ∀ q : Nat, q ≠ a → (H.setIfInBounds a (arrV (D.2.2.1 .int) (h.2.1 a).2 fc))[q]? = H[q]? := fun q hq => by simp [Array.getElem?_setIfInBounds, Ne.symm hq]
  have hA' : ft_A D (ft_row h a fc) (H.setIfInBounds a (arrV (D.2.2.1 .int) (h.2.1 a).2 fc)) := by
    refine ⟨by simp; exact hA.1, hA.2.1, fun b => ?_⟩
    by_cases hb : b = a
    · subst hb
      unfold ft_at
      rw [show (ft_row h b fc).2.1 = h.2.1 from rfl, hk1, show (ft_row h b fc).1 b = fc from by funext j; simp [ft_row]]
      simp [Array.getElem?_setIfInBounds, hal]
    · exact ft_at.kept (h := h) (oq b hb) (by funext j; simp [ft_row, hb]) rfl (hA.2.2 b)
  obtain ⟨t, a1, b1⟩ := k p l e R s m args below meth c _ _ Z ls C rt hl hA' ⟨by simp; exact hS.1, fun q g1 g2 => by
      rw [oq q (fun e => g2 (by rw [e]; exact hB))]
      exact hS.2.1 q g1 g2, fun q hq => by
      rcases List.mem_append.mp hq with h | h
      · exact hS.2.2 q h
      · obtain ⟨z, -, hz⟩ := List.mem_map.mp h
        rw [← hz]
        exact hB⟩ _ (by rw [← hT]; rfl) X'
  exact ⟨t, step t a1, b1⟩
end FTN
