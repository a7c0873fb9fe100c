def ft_has (j : Nat) (w : Jvm.Cond) : Bool := decide (lw_tbl[j]? = some w) && (goodWord w || ft_nestW w)
theorem ft_has_in {j : Nat} {w : Jvm.Cond} (h : ft_has j w = true) : w ∈ ft_tb := by
  unfold ft_has at h
  rw [Bool.and_eq_true] at h
  exact List.mem_filter.mpr ⟨List.mem_of_getElem? (of_decide_eq_true h.1), h.2⟩
def ft_np (z : Nat) : Nat := ((parseMethodDescriptor (ft_m z).1.desc).map (fun d => d.parameters.length)).getD 0
/-- what a method that is called asks of the tables (its code's word by rfl: a comparison of code bytes is dear) -/
def ft_zok (z : Nat) : Prop := (∃ j : Nat, lw_tbl[j]? = some (Cond.code (ft_m z).1 (ft_m z).2.1 (ft_m z).2.2.1 (ft_m z).2.2.2.1)) ∧ (∃ j : Nat, ft_has j (Cond.initialized (ft_m z).1.cls) = true) ∧ plainFor (ft_m z).1 = true ∧
  ((ft_m z).1.cls ≠ "java/lang/invoke/MethodHandle" ∧ (ft_m z).1.cls ≠ "java/lang/invoke/VarHandle" ∧ (parseMethodDescriptor (ft_m z).1.desc).map (fun d => d.parameters.length) = some (ft_np z))
def ft_cokB (y z : Nat) : Bool := decide ((ft_m z).2.2.2.2.1 + 1 ≤ (ft_m y).2.2.2.2.1 ∧ 8 + ((ft_m z).2.2.1 + 11) + (ft_m z).2.2.2.2.2.1 ≤ (ft_m y).2.2.2.2.2.1)
theorem ft_cokB_ok {y z : Nat} (hz : ft_zok z) (h : ft_cokB y z = true) : ft_cok y z (ft_np z) := by
  have h5 := of_decide_eq_true h
  obtain ⟨⟨j, h1⟩, ⟨j2, h2⟩, h3, h4⟩ := hz
  exact ⟨List.mem_filter.mpr ⟨List.mem_of_getElem? h1, rfl⟩, ft_has_in h2, h3, h4, h5.1, h5.2⟩
def ft_lnk (y nest ix z jl : Nat) : Bool := if nest = 1 then ft_has jl (Cond.methodLinkNest (ft_m y).1.cls ix (ft_m z).1 "FlowTalk") else ft_has jl (Cond.methodLink (ft_m y).1.cls ix (ft_m z).1)
theorem ft_lnk_ok {y nest ix z jl : Nat} (h : ft_lnk y nest ix z jl = true) : (∃ host, Cond.methodLinkNest (ft_m y).1.cls ix (ft_m z).1 host ∈ ft_tb) ∨ Cond.methodLink (ft_m y).1.cls ix (ft_m z).1 ∈ ft_tb := by
  unfold ft_lnk at h
  split at h
  · exact Or.inl ⟨_, ft_has_in h⟩
  · exact Or.inr (ft_has_in h)
/-- an instruction's row of the table is right: what it links stands in the words -/
def ft_ok (y : Nat) (i : Instr) (pr : List Nat) : Bool := match i with
  | .ldc ix => match pr with
    | [j, v] => ft_has j (Cond.constant (ft_m y).1.cls ix (Int32.ofNat v))
    | _ => false
  | .ldc_w ix => match pr with
    | [j, v] => ft_has j (Cond.constant (ft_m y).1.cls ix (Int32.ofNat v))
    | _ => false
  | .ldc2_w ix => match pr with
    | [j, v] => ft_has j (Cond.constantLong (ft_m y).1.cls ix (Int64.ofNat v))
    | _ => false
  | .getfield ix => match pr with
    | [j, ci, k] => decide (ci < ft_nc) && decide (k < (ft_cd ci).2.2) && ft_has j (Cond.fieldLink (ft_m y).1.cls ix ((ft_cd ci).2.1 k).1 ((ft_cd ci).2.1 k).2.1 ((ft_cd ci).2.1 k).2.2.1)
    | _ => false
  | .putfield ix => match pr with
    | [j, ci, k] => decide (ci < ft_nc) && decide (k < (ft_cd ci).2.2) && ft_has j (Cond.fieldLink (ft_m y).1.cls ix ((ft_cd ci).2.1 k).1 ((ft_cd ci).2.1 k).2.1 ((ft_cd ci).2.1 k).2.2.1) &&
      decide (((ft_cd ci).2.1 k).2.2.2 = false ∨ (((ft_cd ci).2.1 k).2.2.2 = true ∧ (ft_m y).1.name = "<init>" ∧ ((ft_cd ci).2.1 k).1 = (ft_m y).1.cls))
    | _ => false
  | .getstatic ix => match pr with
    | [j, k] => decide (k < 3) && ft_has j (Cond.fieldLinkNest (ft_m y).1.cls ix (ft_st.getD k ("", "", "")).1 (ft_st.getD k ("", "", "")).2.1 (ft_st.getD k ("", "", "")).2.2 "FlowTalk")
    | _ => false
  | .invokevirtual ix => match pr with
    | [nest, z, jl, jc, ji, js, je] => ft_cokB y z && ft_lnk y nest ix z jl && ft_has js (Cond.instanceMethod (ft_m z).1) && ft_has je (Cond.selects (ft_m z).1.cls (ft_m z).1 (ft_m z).1)
    | _ => false
  | .invokestatic ix => match pr with
    | [nest, z, jl, jc, ji, js] => ft_cokB y z && ft_lnk y nest ix z jl && ft_has js (Cond.static (ft_m z).1)
    | [_] => true
    | _ => false
  | .invokespecial ix => match pr with
    | [nest, z, jl, jc, ji, js] => ft_cokB y z && ft_lnk y nest ix z jl && ft_has js (Cond.instanceMethod (ft_m z).1) && decide ((ft_m z).1.name = "<init>") && decide ((ft_m z).2.2.2.1 = none)
    | [jl, js, jc] => ft_has jl (Cond.methodLink (ft_m y).1.cls ix Lib.objectInit) && ft_has js (Cond.instanceMethod Lib.objectInit) && ft_has jc (Cond.code Lib.objectInit ⟨#[0xb1]⟩ 1 none) && decide (1 ≤ (ft_m y).2.2.2.2.1) && decide (20 ≤ (ft_m y).2.2.2.2.2.1)
    | _ => false
  | .new ix => match pr with
    | [ci, jl, jn, ji] => decide (ci < ft_nc) && ft_has jl (Cond.classLink (ft_m y).1.cls ix (ft_cd ci).1) && ft_has jn (Cond.instantiable (ft_cd ci).1 (ft_cd ci).2.2) && ft_has ji (Cond.initialized (ft_cd ci).1)
    | _ => false
  | .newarray t => match pr with
    | [kd, j] => ft_has j (Cond.arrayClass (newarray.typeOf t)) && decide (ft_kd kd = some (.inr (newarray.typeOf t)))
    | _ => false
  | .anewarray ix => match pr with
    | [kd, jl, jo, ci] => decide (ci < ft_nc) && ft_has jl (Cond.classLink (ft_m y).1.cls ix (ft_cd ci).1) && ft_has jo (Cond.arrayOver (.object (ft_cd ci).1)) && decide (ft_kd kd = some (.inr (.object (ft_cd ci).1)))
    | _ => false
  | _ => true
def ft_chkL (y : Nat) (l : List (Nat × ft_I)) : Bool := l.all (fun q => decide (decode (ft_m y).2.1 q.1 = .ok (q.2.1, q.2.2.1)) && decide (q.2.2.1 = ft_len q.2.1 q.2.2.1) && ft_ok y q.2.1 q.2.2.2)
def ft_chk (y : Nat) : Bool := ft_chkL y (ft_c y)
theorem ft_chk_app {y : Nat} {a b : List (Nat × ft_I)} (h1 : ft_chkL y a = true) (h2 : ft_chkL y b = true) : ft_chkL y (a ++ b) = true := by
  unfold ft_chkL at h1 h2 ⊢
  rw [List.all_append, h1, h2]
  rfl
theorem ft_row_ok {y pc : Nat} {i : Instr} {n : Nat} {pr : List Nat} (hc : ft_chk y = true) (hk : ft_lk pc (ft_c y) = some (i, n, pr)) : decode (ft_m y).2.1 pc = .ok (i, n) ∧ n = ft_len i n ∧ ft_ok y i pr = true := by
  have h := List.all_eq_true.mp hc _ (ft_lk_mem hk)
  simp only [Bool.and_eq_true] at h
  exact ⟨of_decide_eq_true h.1.1, of_decide_eq_true h.1.2, h.2⟩
theorem ft_okC_of {y : Nat} {i : Instr} {pr : List Nat} (h : ft_ok y i pr = true) : ft_okC (ft_m y).1.cls i pr := by
  unfold ft_okC
  split
  · exact ft_has_in h
  · exact ft_has_in h
  · exact ft_has_in h
  · trivial
abbrev ft_ER : Type := List Prop × Nat × List (Nat × Value) × List Value × ft_H × List Value
/-- a step, reads told by an oracle -/
def ft_e (D : ft_G) (y : Nat) (i : Instr) (pr : List Nat) (pc : Nat) (lv : List (Nat × Value)) (st : List Value) (h : ft_H) (os : List Value) : Option ft_ER := match i with
  | .getfield _ => match pr, st, os with
    | [_, ci, k], .ref a :: r, v :: o => some ([(h.2.1 a).1 = ci + 1, h.1 a k = v], pc + 3, lv, v :: r, h, o)
    | _, _, _ => none
  | .putfield _ => match pr, st with
    | [_, ci, k], v :: .ref a :: r => some ([(h.2.1 a).1 = ci + 1, ft_B D ≤ a, narrow (ft_ty ci k) v = v, fits (ft_ty ci k) v = true], pc + 3, lv, r, ft_set h a k v, os)
    | _, _ => none
  | .getstatic _ => match pr with
    | [_, k] => some ([], pc + 3, lv, .ref (D.2.2.2.2.1 k) :: st, h, os)
    | _ => none
  | .iaload => match st, os with
    | .int j :: .ref a :: r, v :: o => some ([ft_kd (h.2.1 a).1 = some (.inr .int), vp_in j (h.2.1 a).2, h.1 a j.toNatClampNeg = v], pc + 1, lv, v :: r, h, o)
    | _, _ => none
  | .laload => match st, os with
    | .int j :: .ref a :: r, v :: o => some ([ft_kd (h.2.1 a).1 = some (.inr .long), vp_in j (h.2.1 a).2, h.1 a j.toNatClampNeg = v], pc + 1, lv, v :: r, h, o)
    | _, _ => none
  | .baload => match pr, st, os with
    | [0], .int j :: .ref a :: r, v :: o => some ([ft_kd (h.2.1 a).1 = some (.inr .byte), vp_in j (h.2.1 a).2, h.1 a j.toNatClampNeg = v], pc + 1, lv, v :: r, h, o)
    | [1], .int j :: .ref a :: r, v :: o => some ([ft_kd (h.2.1 a).1 = some (.inr .boolean), vp_in j (h.2.1 a).2, h.1 a j.toNatClampNeg = v], pc + 1, lv, v :: r, h, o)
    | _, _, _ => none
  | .aaload => match st, os with
    | .int j :: .ref a :: r, v :: o => some ([∃ C, ft_kd (h.2.1 a).1 = some (.inr (.object C)), vp_in j (h.2.1 a).2, h.1 a j.toNatClampNeg = v], pc + 1, lv, v :: r, h, o)
    | _, _ => none
  | .iastore => match st with
    | .int x :: .int j :: .ref a :: r => some ([ft_kd (h.2.1 a).1 = some (.inr .int), ft_B D ≤ a, vp_in j (h.2.1 a).2], pc + 1, lv, r, ft_set h a j.toNatClampNeg (.int x), os)
    | _ => none
  | .lastore => match st with
    | .long x :: .int j :: .ref a :: r => some ([ft_kd (h.2.1 a).1 = some (.inr .long), ft_B D ≤ a, vp_in j (h.2.1 a).2], pc + 1, lv, r, ft_set h a j.toNatClampNeg (.long x), os)
    | _ => none
  | .bastore => match pr, st with
    | [0], .int x :: .int j :: .ref a :: r => some ([ft_kd (h.2.1 a).1 = some (.inr .byte), ft_B D ≤ a, vp_in j (h.2.1 a).2], pc + 1, lv, r, ft_set h a j.toNatClampNeg (narrow .byte (.int x)), os)
    | [1], .int x :: .int j :: .ref a :: r => some ([ft_kd (h.2.1 a).1 = some (.inr .boolean), ft_B D ≤ a, vp_in j (h.2.1 a).2], pc + 1, lv, r, ft_set h a j.toNatClampNeg (narrow .boolean (.int x)), os)
    | _, _ => none
  | .aastore => match pr, st with
    | [ci], .ref v :: .int j :: .ref a :: r => some ([ci < ft_nc, ft_kd (h.2.1 a).1 = some (.inr (.object (ft_cd ci).1)), (h.2.1 v).1 = ci + 1, ft_B D ≤ a, vp_in j (h.2.1 a).2], pc + 1, lv, r, ft_set h a j.toNatClampNeg (.ref v), os)
    | _, _ => none
  | .arraylength => match st, os with
    | .ref a :: r, v :: o => some ([∃ ty, ft_kd (h.2.1 a).1 = some (.inr ty), Value.int (Int32.ofNat (h.2.1 a).2) = v], pc + 1, lv, v :: r, h, o)
    | _, _ => none
  | .invokespecial _ => match pr, st with
    | [_, _, _], .ref _ :: r => some ([(r.map fun v => v.category).sum ≤ 8], pc + 3, lv, r, h, os)
    | _, _ => none
  | i => match ft_p i pr pc (ft_nL y) lv st with
    | some (gs, pc', lv', st') => some (gs, pc', lv', st', h, os)
    | none => none
set_option maxHeartbeats 4000000 in
theorem ft_e_ok {D : ft_G} {y pc pc' n : Nat} {i : Instr} {pr : List Nat} {gs : List Prop} {lv lv' : List (Nat × Value)} {st st' os os' : List Value} {h h' : ft_H} {uc us : Nat} {Q : Option Value → ft_H → Prop}
    (hc : ft_chk y = true) (hk : ft_lk pc (ft_c y) = some (i, n, pr)) (he : ft_e D y i pr pc lv st h os = some (gs, pc', lv', st', h', os')) (hg : ft_all gs) (k : sm D y pc' lv' st' h' uc us Q) : sm D y pc lv st h uc us Q := by
  obtain ⟨hd, hn, ho⟩ := ft_row_ok hc hk
  unfold ft_e at he
  split at he
  · rw [hn] at hd
    split at he
    · cases he
      simp only [ft_ok, Bool.and_eq_true, decide_eq_true_eq] at ho
      exact sm_get hd ho.1.1 ho.1.2 (ft_has_in ho.2) hg.1 hg.2.1 k
    · cases he
  · rw [hn] at hd
    split at he
    · cases he
      simp only [ft_ok, Bool.and_eq_true, decide_eq_true_eq] at ho
      exact sm_put hd ho.1.1.1 ho.1.1.2 (ft_has_in ho.1.2) ho.2 hg.1 hg.2.1 hg.2.2.1 hg.2.2.2.1 k
    · cases he
  · rw [hn] at hd
    split at he
    · cases he
      simp only [ft_ok, Bool.and_eq_true, decide_eq_true_eq] at ho
      rename_i k'
      have hq : ft_st[k']? = some (ft_st.getD k' ("", "", "")) := by
        have h3 : k' < ft_st.length := ho.1
        rw [List.getD_eq_getElem?_getD, List.getElem?_eq_getElem h3]
        rfl
      exact sm_gets hd hq (ft_has_in ho.2) k
    · cases he
  · rw [hn] at hd
    split at he
    · cases he
      exact sm_ald hd (Or.inl ⟨rfl, rfl⟩) hg.1 hg.2.1 hg.2.2.1 k
    · cases he
  · rw [hn] at hd
    split at he
    · cases he
      exact sm_ald hd (Or.inr (Or.inl ⟨rfl, rfl⟩)) hg.1 hg.2.1 hg.2.2.1 k
    · cases he
  · rw [hn] at hd
    split at he
    · cases he
      exact sm_ald hd (Or.inr (Or.inr (Or.inl ⟨rfl, rfl⟩))) hg.1 hg.2.1 hg.2.2.1 k
    · cases he
      exact sm_ald hd (Or.inr (Or.inr (Or.inr (Or.inl ⟨rfl, rfl⟩)))) hg.1 hg.2.1 hg.2.2.1 k
    · cases he
  · rw [hn] at hd
    split at he
    · cases he
      obtain ⟨C, hC⟩ := hg.1
      exact sm_ald hd (Or.inr (Or.inr (Or.inr (Or.inr ⟨rfl, rfl⟩)))) hC hg.2.1 hg.2.2.1 k
    · cases he
  · rw [hn] at hd
    split at he
    · cases he
      exact sm_ast hd (Or.inl ⟨rfl, rfl, _, rfl, rfl⟩) hg.1 hg.2.1 hg.2.2.1 k
    · cases he
  · rw [hn] at hd
    split at he
    · cases he
      exact sm_ast hd (Or.inr (Or.inl ⟨rfl, rfl, _, rfl, rfl⟩)) hg.1 hg.2.1 hg.2.2.1 k
    · cases he
  · rw [hn] at hd
    split at he
    · cases he
      exact sm_ast hd (Or.inr (Or.inr (Or.inl ⟨rfl, rfl, _, rfl, rfl⟩))) hg.1 hg.2.1 hg.2.2.1 k
    · cases he
      exact sm_ast hd (Or.inr (Or.inr (Or.inr ⟨rfl, rfl, _, rfl, rfl⟩))) hg.1 hg.2.1 hg.2.2.1 k
    · cases he
  · rw [hn] at hd
    split at he
    · cases he
      exact sm_aast hd hg.1 hg.2.1 hg.2.2.1 hg.2.2.2.1 hg.2.2.2.2.1 k
    · cases he
  · rw [hn] at hd
    split at he
    · cases he
      obtain ⟨ty, hty⟩ := hg.1
      exact sm_alen hd hty hg.2.1 k
    · cases he
  · rw [hn] at hd
    split at he
    · cases he
      simp only [ft_ok, Bool.and_eq_true, decide_eq_true_eq] at ho
      exact sm_objInit hd (ft_has_in ho.1.1.1.1) (ft_has_in ho.1.1.1.2) (ft_has_in ho.1.1.2) ho.1.2 ho.2 hg.1 k
    · cases he
  · split at he
    · rename_i e
      cases he
      exact ft_p_ok hd hn (ft_okC_of ho) e hg k
    · cases he
def ft_run (D : ft_G) (y : Nat) : Nat → Nat → List (Nat × Value) → List Value → ft_H → List Value → Option ft_ER
  | 0, pc, lv, st, h, os => some ([], pc, lv, st, h, os)
  | n + 1, pc, lv, st, h, os => match ft_lk pc (ft_c y) with
    | none => none
    | some (i, _, pr) => match ft_e D y i pr pc lv st h os with
      | none => none
      | some (gs, pc', lv', st', h', os') => match ft_run D y n pc' lv' st' h' os' with
        | none => none
        | some (gs', e) => some (gs ++ gs', e)
theorem ft_all_app : ∀ {a b : List Prop}, ft_all (a ++ b) → ft_all a ∧ ft_all b
  | [], _, h => ⟨trivial, h⟩
  | _ :: _, _, h => ⟨⟨h.1, (ft_all_app h.2).1⟩, (ft_all_app h.2).2⟩
theorem ft_run_ok {D : ft_G} {y : Nat} {uc us : Nat} {Q : Option Value → ft_H → Prop} (hc : ft_chk y = true) : ∀ (n pc : Nat) (lv : List (Nat × Value)) (st : List Value) (h : ft_H) (os : List Value) {gs : List Prop} {pc' : Nat} {lv' : List (Nat × Value)} {st' os' : List Value} {h' : ft_H},
    ft_run D y n pc lv st h os = some (gs, pc', lv', st', h', os') → ft_all gs → sm D y pc' lv' st' h' uc us Q → sm D y pc lv st h uc us Q
  | 0, pc, lv, st, h, os, gs, pc', lv', st', os', h', he, hg, k => by
    cases he
    exact k
  | n + 1, pc, lv, st, h, os, gs, pc', lv', st', os', h', he, hg, k => by
    unfold ft_run at he
    split at he
    · cases he
    · rename_i hk
      split at he
      · cases he
      · rename_i he1
        split at he
        · cases he
        · rename_i he2
          cases he
          obtain ⟨g1, g2⟩ := ft_all_app hg
          exact ft_e_ok hc hk he1 g1 (ft_run_ok hc n _ _ _ _ _ he2 g2 k)
