def ft_ty (c k : Nat) : FieldType := (ft_tys.getD c []).getD k .int
def ft_cd (c : Nat) : vw_C := ft_cl.getD c ("", fun _ => ("", "", "", false), 0)
set_option maxRecDepth 100000 in
theorem ft_cl_in : ∀ q ∈ ft_cl, ∀ w ∈ u_ws q.1 q.2.1 q.2.2, w ∈ ft_tb := by decide +kernel
set_option maxRecDepth 100000 in
theorem ft_tok : ∀ c, c < ft_nc → ∀ k, k < (ft_cd c).2.2 → parseFieldDescriptor ((ft_cd c).2.1 k).2.2.1 = some (ft_ty c k) := by decide +kernel
set_option maxRecDepth 100000 in
theorem ft_nm : ∀ c, c < ft_nc → ∀ a, a < (ft_cd c).2.2 → ∀ b, b < (ft_cd c).2.2 → a ≠ b → ((ft_cd c).2.1 a).2.1 ≠ ((ft_cd c).2.1 b).2.1 := by decide +kernel
theorem ft_cl_len : ft_cl.length = ft_nc := by decide +kernel
theorem ft_cd_at {c : Nat} (h : c < ft_nc) : ft_cl[c]? = some (ft_cd c) := by
  have h1 : c < ft_cl.length := by rw [ft_cl_len]; exact h
  unfold ft_cd
  rw [List.getD_eq_getElem?_getD, List.getElem?_eq_getElem h1]
  rfl
theorem ft_kd_obj {c : Nat} (h : c < ft_nc) : ft_kd (c + 1) = some (.inl c) := by
  unfold ft_kd
  dsimp only
  rw [if_pos h]
theorem ft_kd_mem {c : Nat} {ty : FieldType} (h : ft_kd c = some (.inr ty)) : ty ∈ ft_ak := by
  unfold ft_kd at h
  split at h
  · cases h
  · split at h
    · cases h
    · rename_i c' _
      cases hq : ft_ak[c' - ft_nc]? with
      | none => rw [hq] at h; cases h
      | some t =>
        rw [hq] at h
        cases h
        exact List.mem_of_getElem? hq
theorem ft_at.kept {D : ft_G} {h h1 : ft_H} {H H1 : Heap} {a : Nat} (hq : H1[a]? = H[a]?) (hv : h1.1 a = h.1 a) (hk : h1.2.1 a = h.2.1 a) (q : ft_at D h H a) : ft_at D h1 H1 a := by
  unfold ft_at at q ⊢
  rw [hk, hv]
  split at q
  · trivial
  · obtain ⟨r, e1, e2⟩ := q
    exact ⟨r, e1, e2.kept hq⟩
  · rw [hq]
    exact q
theorem ft_set_ne {h : ft_H} {a k b : Nat} {v : Value} (hb : b ≠ a) : (ft_set h a k v).1 b = h.1 b := by
  funext j
  simp [ft_set, hb]
theorem ft_set_V {h : ft_H} {a k : Nat} {v : Value} : (ft_set h a k v).1 a = updV (h.1 a) k v := by
  funext j
  simp [ft_set, updV]
/-- an object's places -/
theorem ft_A.obj {D : ft_G} {h : ft_H} {H : Heap} {a ci : Nat} (hA : ft_A D h H) (hci : ci < ft_nc) (hk : (h.2.1 a).1 = ci + 1) : t_OB a (D.1 ci) (ft_cd ci).2.2 (D.2.1 ci) H (h.1 a) := by
  have q := hA.2.2 a
  unfold ft_at at q
  rw [hk, ft_kd_obj hci] at q
  obtain ⟨r, e1, e2⟩ := q
  rw [ft_cd_at hci] at e1
  cases e1
  exact e2
theorem ft_A.arr {D : ft_G} {h : ft_H} {H : Heap} {a : Nat} {ty : FieldType} (hA : ft_A D h H) (hk : ft_kd (h.2.1 a).1 = some (.inr ty)) : H[a]? = some (arrV (D.2.2.1 ty) (h.2.1 a).2 (h.1 a)) := by
  have q := hA.2.2 a
  unfold ft_at at q
  rw [hk] at q
  exact q
theorem ft_A.set {D : ft_G} {h : ft_H} {H H1 : Heap} {a k : Nat} {v : Value} (hA : ft_A D h H) (z : H1.size = H.size) (oq : ∀ q : Nat, q ≠ a → H1[q]? = H[q]?) (ha : ft_at D (ft_set h a k v) H1 a) : ft_A D (ft_set h a k v) H1 := by
  refine ⟨z.trans hA.1, hA.2.1, fun b => ?_⟩
  by_cases hb : b = a
  · subst hb; exact ha
  · exact ft_at.kept (oq b hb) (ft_set_ne hb) rfl (hA.2.2 b)
theorem ft_A.setArr {D : ft_G} {h : ft_H} {H H1 : Heap} {a k : Nat} {v : Value} {ty : FieldType} (hA : ft_A D h H) (hk : ft_kd (h.2.1 a).1 = some (.inr ty)) (e : H1[a]? = some ((arrV (D.2.2.1 ty) (h.2.1 a).2 (h.1 a)).setSlot k v)) (z : H1.size = H.size) (oq : ∀ q : Nat, q ≠ a → H1[q]? = H[q]?) : ft_A D (ft_set h a k v) H1 := by
  refine hA.set z oq ?_
  unfold ft_at
  rw [show (ft_set h a k v).2.1 = h.2.1 from rfl, hk, ft_set_V]
  rw [e, arrV_store]
section FTM
variable {D : ft_G} {y pc : Nat} {lv : List (Nat × Value)} {r : List Value} {h : ft_H} {uc us : Nat} {Q : Option Value → ft_H → Prop}
theorem sm_get {ix ci k a : Nat} {v : Value} (hd : decode (ft_m y).2.1 pc = .ok (.getfield ix, 3)) (hci : ci < ft_nc) (hkN : k < (ft_cd ci).2.2) (hlk : Cond.fieldLink (ft_m y).1.cls ix ((ft_cd ci).2.1 k).1 ((ft_cd ci).2.1 k).2.1 ((ft_cd ci).2.1 k).2.2.1 ∈ ft_tb)
    (hk : (h.2.1 a).1 = ci + 1) (hv : h.1 a k = v) (kk : sm D y (pc + 3) lv (v :: r) h uc us Q) : sm D y pc lv (.ref a :: r) h uc us Q := by
  refine sm_pure (fun p l en R s m args below meth c H locs Z ls C hl hA hS kk => ?_) kk
  obtain ⟨cell, q1, q2, q3, q4⟩ := hA.obj hci hk
  have hc := ft_cd_at hci
  obtain ⟨hS', hfc, kC, hkC, hkind⟩ := C.2.2.2.2.2.1.1 ci _ hc
  obtain ⟨cf, kf, fi, f, hi, hsl⟩ := hS' k hkN
  refine W.getf C.1 C.2.1 C.2.2.2.1 (C.2.2.2.2.1 _ hlk) hi (u_facts hfc hkC (u_lays C.2.2.2.2.1 (ft_cl_in _ (List.mem_of_getElem? hc)) hkN) hi).1 q1 (by rw [q3]; exact fun h => by cases h) (v := v) ?_ rfl rfl hd (kk ls hl)
  rw [hsl, q4 k hkN, hv]
theorem sm_put {ix ci k a : Nat} {v : Value} (hd : decode (ft_m y).2.1 pc = .ok (.putfield ix, 3)) (hci : ci < ft_nc) (hkN : k < (ft_cd ci).2.2) (hlk : Cond.fieldLink (ft_m y).1.cls ix ((ft_cd ci).2.1 k).1 ((ft_cd ci).2.1 k).2.1 ((ft_cd ci).2.1 k).2.2.1 ∈ ft_tb)
    (hfin : ((ft_cd ci).2.1 k).2.2.2 = false ∨ (((ft_cd ci).2.1 k).2.2.2 = true ∧ (ft_m y).1.name = "<init>" ∧ ((ft_cd ci).2.1 k).1 = (ft_m y).1.cls))
    (hk : (h.2.1 a).1 = ci + 1) (hB : ft_B D ≤ a) (hn : narrow (ft_ty ci k) v = v) (hfit : fits (ft_ty ci k) v = true) (kk : sm D y (pc + 3) lv r (ft_set h a k v) uc us Q) : sm D y pc lv (v :: .ref a :: r) h uc us Q := by
  intro p l e R s m args below meth c H locs Z ls C rt hl hA hS
  obtain ⟨cell, q1, q2, q3, q4⟩ := hA.obj hci hk
  have hc := ft_cd_at hci
  have hin := ft_cl_in _ (List.mem_of_getElem? hc)
  obtain ⟨hS', hfc, kC, hkC, hkind⟩ := C.2.2.2.2.2.1.1 ci _ hc
  have hap : ∀ x y, x < (ft_cd ci).2.2 → y < (ft_cd ci).2.2 → x ≠ y → (D.2.1 ci) x ≠ (D.2.1 ci) y := by
    intro x z hx hz hne
    obtain ⟨_, _, _, fa, hia, ea⟩ := hS' x hx
    obtain ⟨_, _, _, fb, hib, eb⟩ := hS' z hz
    rw [← ea, ← eb]
    refine u_apart (u_lays C.2.2.2.2.1 hin hx) (u_lays C.2.2.2.2.1 hin hz) hia hib ?_
    rw [(State.fieldFound?_type hia (ft_tok ci hci x hx)).1, (State.fieldFound?_type hib (ft_tok ci hci z hz)).1]
    exact ft_nm ci hci x hx z hz hne
  obtain ⟨cf, kf, fi, f, hi, hsl⟩ := hS' k hkN
  have hlay := C.2.2.2.2.1 _ (hin _ (u_in_lay hkN))
  have hst := (u_facts hfc hkC (u_lays C.2.2.2.2.1 hin hkN) hi).1
  have fin : ∀ H' : Heap, H'[a]? = some (cell.setSlot f.slot v) → H'.size = H.size → (∀ q, q ≠ a → H'[q]? = H[q]?) → W p l e R s m args below meth c H' (locs ++ [⟨a, f.slot⟩]) uc us Z { F0 m pc ls (v :: .ref a :: r) with pc := pc + 3, stack := r } := by
    intro H' e1 e2 e3
    refine kk p l e R s m args below meth c H' _ Z ls C rt hl (hA.set e2 e3 ?_) (hS.put e2 e3 hB)
    unfold ft_at
    rw [show (ft_set h a k v).2.1 = h.2.1 from rfl, hk, ft_kd_obj hci, ft_set_V]
    rw [hsl] at e1
    exact ⟨_, hc, ⟨_, e1, q2, q3, t_set q4 hap hkN v⟩⟩
  rcases hfin with hfin | ⟨hfin, hnm, hdecl⟩
  · unfold u_lay at hlay
    rw [if_neg (by rw [hfin]; decide)] at hlay
    have h6 := u_store hfc hkC hkind hlay hi (ft_tok ci hci k hkN) hn hfit
    exact W.putK C.1 C.2.1 (f := f) ⟨C.2.2.2.1, C.2.2.2.2.1 _ hlk, ⟨_, _, _, hi⟩, hst⟩ (by rw [q2]; exact h6) q1 q3 (by rw [hsl]; exact k2_hasslot (q4 k hkN)) rfl rfl hd fin
  · unfold u_lay at hlay
    rw [if_pos hfin] at hlay
    have hcf : m.cls = cf := by
      obtain ⟨_, _, c', _, _, _, -, -, hf', -, -, -, hown2, -⟩ := Cond.laysFinal_spec hlay
      have e1 : c' = cf := by have := hi.symm.trans hf'; simp at this; exact this.1.symm
      rw [hdecl] at hown2
      rw [← e1]; exact Option.some.inj (C.2.2.2.1.symm.trans hown2)
    have h6 := u_fits hfc hkC hkind (Or.inr hlay) hi (ft_tok ci hci k hkN) hn hfit
    exact W.putFinK C.1 C.2.1 C.2.2.2.1 (C.2.2.2.2.1 _ hlk) hi hst hcf (C.2.2.2.2.2.2.1.trans hnm) (by rw [q2]; exact h6) q1 q3 (by rw [hsl]; exact k2_hasslot (q4 k hkN)) rfl rfl hd fin
theorem sm_ald {i : Instr} {a : Nat} {j : Int32} {v : Value} {ty : FieldType} (hd : decode (ft_m y).2.1 pc = .ok (i, 1)) (hi : (i = .iaload ∧ ty = .int) ∨ (i = .laload ∧ ty = .long) ∨ (i = .baload ∧ ty = .byte) ∨ (i = .baload ∧ ty = .boolean) ∨ (i = .aaload ∧ ty.isReference = true))
    (hk : ft_kd (h.2.1 a).1 = some (.inr ty)) (hin : vp_in j (h.2.1 a).2) (hv : h.1 a j.toNatClampNeg = v) (kk : sm D y (pc + 1) lv (v :: r) h uc us Q) : sm D y pc lv (.int j :: .ref a :: r) h uc us Q := by
  refine sm_pure (fun p l en R s m args below meth c H locs Z ls C hl hA hS kk => ?_) kk
  have hcell := hA.arr hk
  have hAr := (C.2.2.2.2.2.1.2.1 ty (ft_kd_mem hk)).1 (h.2.1 a).2 (h.1 a)
  have hlt : j.toNatClampNeg < (h.2.1 a).2 := Nat.not_le.mp fun q => hin (Or.inr q)
  have hi1 : ¬ (j < 0 ∨ (arrV (D.2.2.1 ty) (h.2.1 a).2 (h.1 a)).slots.size ≤ j.toNatClampNeg) := by rw [arrV_size]; exact hin
  have hr : (arrV (D.2.2.1 ty) (h.2.1 a).2 (h.1 a)).slots[j.toNatClampNeg]? = some v := by rw [arrV_read _ _ hlt, hv]
  have hkn : (arrV (D.2.2.1 ty) (h.2.1 a).2 (h.1 a)).vm ≠ .unknown := fun q => by cases q
  rcases hi with ⟨rfl, rfl⟩ | ⟨rfl, rfl⟩ | ⟨rfl, rfl⟩ | ⟨rfl, rfl⟩ | ⟨rfl, hty⟩
  · exact W.iald C.1 C.2.1 hcell hAr hkn hi1 hr rfl rfl hd (kk ls hl)
  · exact W.lald C.1 C.2.1 hcell hAr hkn hi1 hr rfl rfl hd (kk ls hl)
  · exact W.bald C.1 C.2.1 hcell hAr hkn hi1 hr rfl rfl hd (kk ls hl)
  · exact W.zald C.1 C.2.1 hcell hAr hkn hi1 hr rfl rfl hd (kk ls hl)
  · exact W.aald C.1 C.2.1 hcell hAr hty hkn hi1 hr rfl rfl hd (kk ls hl)
theorem sm_ast {i : Instr} {a : Nat} {j : Int32} {v w : Value} {ty : FieldType} (hd : decode (ft_m y).2.1 pc = .ok (i, 1))
    (hi : (i = .iastore ∧ ty = .int ∧ ∃ x : Int32, v = .int x ∧ w = .int x) ∨ (i = .lastore ∧ ty = .long ∧ ∃ x : Int64, v = .long x ∧ w = .long x) ∨ (i = .bastore ∧ ty = .byte ∧ ∃ x : Int32, v = .int x ∧ w = narrow .byte (.int x)) ∨ (i = .bastore ∧ ty = .boolean ∧ ∃ x : Int32, v = .int x ∧ w = narrow .boolean (.int x)))
    (hk : ft_kd (h.2.1 a).1 = some (.inr ty)) (hB : ft_B D ≤ a) (hin : vp_in j (h.2.1 a).2) (kk : sm D y (pc + 1) lv r (ft_set h a j.toNatClampNeg w) uc us Q) : sm D y pc lv (v :: .int j :: .ref a :: r) h uc us Q := by
  intro p l e R s m args below meth c H locs Z ls C rt hl hA hS
  have hcell := hA.arr hk
  have hAr := (C.2.2.2.2.2.1.2.1 ty (ft_kd_mem hk)).1 (h.2.1 a).2 (h.1 a)
  have hi1 : ¬ (j < 0 ∨ (arrV (D.2.2.1 ty) (h.2.1 a).2 (h.1 a)).slots.size ≤ j.toNatClampNeg) := by rw [arrV_size]; exact hin
  have hkn : (arrV (D.2.2.1 ty) (h.2.1 a).2 (h.1 a)).vm ≠ .unknown := fun q => by cases q
  rcases hi with ⟨rfl, rfl, x, rfl, rfl⟩ | ⟨rfl, rfl, x, rfl, rfl⟩ | ⟨rfl, rfl, x, rfl, rfl⟩ | ⟨rfl, rfl, x, rfl, rfl⟩
  · exact W.iast C.1 C.2.1 hcell hAr hkn hi1 rfl rfl hd (fun H' e1 e2 e3 => kk p l e R s m args below meth c H' _ Z ls C rt hl (hA.setArr hk e1 e2 e3) (hS.put e2 e3 hB))
  · exact W.last C.1 C.2.1 hcell hAr hkn hi1 rfl rfl hd (fun H' e1 e2 e3 => kk p l e R s m args below meth c H' _ Z ls C rt hl (hA.setArr hk e1 e2 e3) (hS.put e2 e3 hB))
  · exact W.bast C.1 C.2.1 hcell hAr hkn hi1 rfl rfl hd (fun H' e1 e2 e3 => kk p l e R s m args below meth c H' _ Z ls C rt hl (hA.setArr hk e1 e2 e3) (hS.put e2 e3 hB))
  · exact W.zast C.1 C.2.1 hcell hAr hkn hi1 rfl rfl hd (fun H' e1 e2 e3 => kk p l e R s m args below meth c H' _ Z ls C rt hl (hA.setArr hk e1 e2 e3) (hS.put e2 e3 hB))
theorem sm_aast {a v ci : Nat} {j : Int32} (hd : decode (ft_m y).2.1 pc = .ok (.aastore, 1)) (hci : ci < ft_nc) (hk : ft_kd (h.2.1 a).1 = some (.inr (.object (ft_cd ci).1))) (hkv : (h.2.1 v).1 = ci + 1)
    (hB : ft_B D ≤ a) (hin : vp_in j (h.2.1 a).2) (kk : sm D y (pc + 1) lv r (ft_set h a j.toNatClampNeg (.ref v)) uc us Q) : sm D y pc lv (.ref v :: .int j :: .ref a :: r) h uc us Q := by
  intro p l e R s m args below meth c H locs Z ls C rt hl hA hS
  have hcell := hA.arr hk
  obtain ⟨cellV, g1, g2, g3, -⟩ := hA.obj hci hkv
  have hcls := (C.2.2.2.2.2.1.1 ci _ (ft_cd_at hci)).2
  obtain ⟨kA, comp, k1, k2, k3, -⟩ := (C.2.2.2.2.2.1.2.1 _ (ft_kd_mem hk)).2
  have hcomp : comp = D.1 ci := Option.some.inj (k3.symm.trans hcls.1)
  subst hcomp
  obtain ⟨kC, hkC, -⟩ := hcls.2
  have h0 : ¬ j < 0 := fun q => hin (Or.inl q)
  have hlt : j.toNatClampNeg < (h.2.1 a).2 := Nat.not_le.mp fun q => hin (Or.inr q)
  exact W.aast C.1 C.2.1 hcell (fun q h => by cases h) (fun h => by cases h) k1 k2 rfl hkC ⟨h0, by rw [arrV_size]; exact hlt⟩ g1 (fun q h => by rw [g3] at h; cases h) (by rw [g2]; exact hkC) (by rw [g2]; exact va_assign hcls) rfl rfl hd (fun H' e1 e2 e3 => kk p l e R s m args below meth c H' _ Z ls C rt hl (hA.setArr hk e1 e2 e3) (hS.put e2 e3 hB))
theorem sm_alen {a : Nat} {ty : FieldType} {v : Value} (hd : decode (ft_m y).2.1 pc = .ok (.arraylength, 1)) (hk : ft_kd (h.2.1 a).1 = some (.inr ty)) (hv : Value.int (Int32.ofNat (h.2.1 a).2) = v) (kk : sm D y (pc + 1) lv (v :: r) h uc us Q) : sm D y pc lv (.ref a :: r) h uc us Q := by
  subst hv
  refine sm_pure (fun p l en R s m args below meth c H locs Z ls C hl hA hS kk => ?_) kk
  have hAr := (C.2.2.2.2.2.1.2.1 ty (ft_kd_mem hk)).1 (h.2.1 a).2 (h.1 a)
  exact W.alen C.1 C.2.1 (hA.arr hk) hAr (by rw [arrV_size]) rfl rfl hd (kk ls hl)
theorem sm_gets {ix k : Nat} {q : String × String × String} {host : String} (hd : decode (ft_m y).2.1 pc = .ok (.getstatic ix, 3)) (hq : ft_st[k]? = some q) (hlk : Cond.fieldLinkNest (ft_m y).1.cls ix q.1 q.2.1 q.2.2 host ∈ ft_tb) (kk : sm D y (pc + 3) lv (.ref (D.2.2.2.2.1 k) :: r) h uc us Q) : sm D y pc lv r h uc us Q :=
  sm_pure (fun p l en R s m args below meth c H locs Z ls C hl hA hS kk => va_getsN C.1 C.2.1 (C.2.2.2.2.2.1.2.2.1 k q hq).1 hS C.2.2.2.1 (C.2.2.2.2.1 _ hlk) (fun _ x => x) hd (kk ls hl)) kk
theorem sm_tld {k : Nat} {q : String × String × String} {j : Int32} (hd : decode (ft_m y).2.1 pc = .ok (.iaload, 1)) (hq : ft_st[k]? = some q) (hin : vp_in j 4) (kk : sm D y (pc + 1) lv (.int (ft_sv k j.toNatClampNeg) :: r) h uc us Q) : sm D y pc lv (.int j :: .ref (D.2.2.2.2.1 k) :: r) h uc us Q :=
  sm_pure (fun p l en R s m args below meth c H locs Z ls C hl hA hS kk => va_ti C.1 C.2.1 (C.2.2.2.2.2.1.2.2.1 k q hq).2 hS hin rfl hd (kk ls hl)) kk
theorem sm_sld {j : Int32} (hd : decode (ft_m y).2.1 pc = .ok (.iaload, 1)) (hin : vp_in j D.2.2.2.2.2.2.1) (kk : sm D y (pc + 1) lv (.int (D.2.2.2.2.2.2.2 j.toNatClampNeg) :: r) h uc us Q) : sm D y pc lv (.int j :: .ref D.2.2.2.2.2.1 :: r) h uc us Q :=
  sm_pure (fun p l en R s m args below meth c H locs Z ls C hl hA hS kk => va_sld C.1 C.2.1 C.2.2.2.2.2.1.2.2.2.2.1 (Nat.lt_of_lt_of_le C.2.2.2.2.2.1.2.2.2.2.2.1 C.2.2.2.2.2.1.2.2.2.2.2.2) (Nat.not_le.mpr C.2.2.2.2.2.1.2.2.2.2.2.1) hS hin hd (kk ls hl)) kk
theorem sm_slen {v : Value} (hd : decode (ft_m y).2.1 pc = .ok (.arraylength, 1)) (hv : Value.int (Int32.ofNat D.2.2.2.2.2.2.1) = v) (kk : sm D y (pc + 1) lv (v :: r) h uc us Q) : sm D y pc lv (.ref D.2.2.2.2.2.1 :: r) h uc us Q := by
  subst hv
  exact sm_pure (fun p l en R s m args below meth c H locs Z ls C hl hA hS kk => va_slen C.1 C.2.1 C.2.2.2.2.2.1.2.2.2.2.1 (Nat.lt_of_lt_of_le C.2.2.2.2.2.1.2.2.2.2.2.1 C.2.2.2.2.2.1.2.2.2.2.2.2) (Nat.not_le.mpr C.2.2.2.2.2.1.2.2.2.2.2.1) hS hd (kk ls hl)) kk
end FTM
