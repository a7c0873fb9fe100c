section FTB
variable {D : ft_G} {y pc : Nat} {lv : List (Nat × Value)} {r : List Value} {h : ft_H} {uc us : Nat} {Q : Option Value → ft_H → Prop}
/-- the branches: the condition, in the kit's words -/
def ft_cond1 (c : Jvm.ClassFile.Cond) (x : Int32) : Prop := match c with
  | .eq => x = 0
  | .ne => ¬ x = 0
  | .lt => x < 0
  | .ge => 0 ≤ x
  | .gt => 0 < x
  | .le => x ≤ 0
def ft_cond2 (c : Jvm.ClassFile.Cond) (x y : Int32) : Prop := match c with
  | .eq => x = y
  | .ne => ¬ x = y
  | .lt => x < y
  | .ge => y ≤ x
  | .gt => y < x
  | .le => x ≤ y
theorem sm_if {cn : Jvm.ClassFile.Cond} {off : Int} {x : Int32} {tgt : Nat} (hd : decode (ft_m y).2.1 pc = .ok (.ifCond cn off, 3)) (ht : (pc : Int) + off = (tgt : Int)) (kt : ft_cond1 cn x → sm D y tgt lv r h uc us Q) (kf : ¬ ft_cond1 cn x → sm D y (pc + 3) lv r h uc us Q) : sm D y pc lv (.int x :: r) h uc us Q := by
  intro p l e R s m args below meth c H locs Z ls C rt hl hA hS
  have k1 := fun q => kt q p l e R s m args below meth c H locs Z ls C rt hl hA hS
  have k2 := fun q => kf q p l e R s m args below meth c H locs Z ls C rt hl hA hS
  match cn, hd, k1, k2 with
  | .eq, hd, k1, k2 => exact lv_if_eq C.1 C.2.1 hd ht k1 k2
  | .ne, hd, k1, k2 => exact lv_if_ne C.1 C.2.1 hd ht k1 (fun q => k2 (fun z => z q))
  | .lt, hd, k1, k2 => exact lv_if_lt C.1 C.2.1 hd ht k1 k2
  | .ge, hd, k1, k2 => exact lv_if_ge C.1 C.2.1 hd ht k1 k2
  | .gt, hd, k1, k2 => exact lv_if_gt C.1 C.2.1 hd ht k1 k2
  | .le, hd, k1, k2 => exact lv_if_le C.1 C.2.1 hd ht k1 k2
theorem sm_icmp {cn : Jvm.ClassFile.Cond} {off : Int} {x z : Int32} {tgt : Nat} (hd : decode (ft_m y).2.1 pc = .ok (.if_icmp cn off, 3)) (ht : (pc : Int) + off = (tgt : Int)) (kt : ft_cond2 cn x z → sm D y tgt lv r h uc us Q) (kf : ¬ ft_cond2 cn x z → sm D y (pc + 3) lv r h uc us Q) : sm D y pc lv (.int z :: .int x :: r) h uc us Q := by
  intro p l e R s m args below meth c H locs Z ls C rt hl hA hS
  have k1 := fun q => kt q p l e R s m args below meth c H locs Z ls C rt hl hA hS
  have k2 := fun q => kf q p l e R s m args below meth c H locs Z ls C rt hl hA hS
  match cn, hd, k1, k2 with
  | .eq, hd, k1, k2 => exact lv_icmp_eq C.1 C.2.1 hd ht k1 k2
  | .ne, hd, k1, k2 => exact lv_icmp_ne C.1 C.2.1 hd ht k1 (fun q => k2 (fun z => z q))
  | .lt, hd, k1, k2 => exact lv_icmp_lt C.1 C.2.1 hd ht k1 k2
  | .ge, hd, k1, k2 => exact lv_icmp_ge C.1 C.2.1 hd ht k1 k2
  | .gt, hd, k1, k2 => exact lv_icmp_gt C.1 C.2.1 hd ht k1 k2
  | .le, hd, k1, k2 => exact lv_icmp_le C.1 C.2.1 hd ht k1 k2
theorem sm_swOut {dflt lo hi : Int} {offs : Array Int} {len tgt : Nat} {x : Int32} (hd : decode (ft_m y).2.1 pc = .ok (.tableswitch dflt lo hi offs, len)) (hx : x.toInt < lo ∨ hi < x.toInt) (ht : (pc : Int) + dflt = (tgt : Int)) (k : sm D y tgt lv r h uc us Q) : sm D y pc lv (.int x :: r) h uc us Q :=
  sm_pure (fun p l en R s m args below meth c H locs Z ls C hl hA hS kk => lv_tableOut C.1 C.2.1 hd hx ht (kk ls hl)) k
theorem sm_swIn {dflt lo hi off : Int} {offs : Array Int} {len tgt : Nat} {x : Int32} (hd : decode (ft_m y).2.1 pc = .ok (.tableswitch dflt lo hi offs, len)) (h1 : ¬ x.toInt < lo) (h2 : ¬ hi < x.toInt) (ho : offs[(x.toInt - lo).toNat]? = some off) (ht : (pc : Int) + off = (tgt : Int)) (k : sm D y tgt lv r h uc us Q) : sm D y pc lv (.int x :: r) h uc us Q :=
  sm_pure (fun p l en R s m args below meth c H locs Z ls C hl hA hS kk => lv_tableIn C.1 C.2.1 hd h1 h2 ho ht (kk ls hl)) k
/-- the end -/
theorem sm_ret {i : Instr} {v : Option Value} (hd : decode (ft_m y).2.1 pc = .ok (i, 1)) (hi : ft_ret (ft_m y).2.2.2.1 v i) (h1 : uc ≤ ft_mc y) (h2 : us ≤ ft_mz y) (hq : Q v h) : sm D y pc lv v.toList h uc us Q := by
  intro p l e R s m args below meth c H locs Z ls C rt hl hA hS
  exact W.widen h1 h2 (rt pc ls i v h H locs hq hA hS hi hd)
/-- Object's constructor -/
theorem sm_objInit {ix a : Nat} (hd : decode (ft_m y).2.1 pc = .ok (.invokespecial ix, 3)) (h1 : Cond.methodLink (ft_m y).1.cls ix Lib.objectInit ∈ ft_tb) (h2 : Cond.instanceMethod Lib.objectInit ∈ ft_tb) (h3 : Cond.code Lib.objectInit ⟨#[0xb1]⟩ 1 none ∈ ft_tb) (hf : 1 ≤ (ft_m y).2.2.2.2.1) (hw : 20 ≤ (ft_m y).2.2.2.2.2.1) (hr : (r.map fun v => v.category).sum ≤ 8)
    (k : sm D y (pc + 3) lv r h uc us Q) : sm D y pc lv (.ref a :: r) h uc us Q := by
  refine sm_pure (fun p l en R s m args below meth c H locs Z ls C hl hA hS kk => ?_) k
  have hR := C.2.2.2.2.2.2.2.2.2.1
  have hL := C.2.2.2.2.2.2.2.2.2.2.1
  exact W.objInit C.1 C.2.1 C.2.2.2.1 (C.2.2.2.2.1 _ h1) (C.2.2.2.2.1 _ h2) (C.2.2.2.2.1 _ h3) rfl (by rw [C.2.2.1]; exact hl.1) rfl hd (Nat.le_trans hf hR) (by show 2 * 0 + _ + 12 ≤ _; omega) (kk ls hl)
theorem ft_new_ne {h : ft_H} {kd : Nat × Nat} {f : Nat → Value} {b : Nat} (hb : b ≠ h.2.2) : (ft_new h kd f).1 b = h.1 b ∧ (ft_new h kd f).2.1 b = h.2.1 b := by
  refine ⟨?_, ?_⟩
  · funext j
    simp [ft_new, hb]
  · simp [ft_new, hb]
theorem ft_new_V {h : ft_H} {kd : Nat × Nat} {f : Nat → Value} : (ft_new h kd f).1 h.2.2 = f := by
  funext j
  simp [ft_new]
theorem ft_new_K {h : ft_H} {kd : Nat × Nat} {f : Nat → Value} : (ft_new h kd f).2.1 h.2.2 = kd := by simp [ft_new]
theorem ft_at.lt {h : ft_H} {H : Heap} {a : Nat} (q : ft_at D h H a) (hn : ft_kd (h.2.1 a).1 ≠ none) : a < H.size := by
  unfold ft_at at q
  split at q
  · rename_i e; exact absurd e hn
  · obtain ⟨r, e1, cell, e2, -⟩ := q
    exact (Array.getElem?_eq_some_iff.mp e2).1
  · exact (Array.getElem?_eq_some_iff.mp q).1
/-- what isn't there yet isn't pictured, so a new cell takes nobody's place -/
theorem ft_A.new {h : ft_H} {H H1 : Heap} {kd : Nat × Nat} {f : Nat → Value} (hA : ft_A D h H) (z : H1.size = H.size + 1) (oq : ∀ q : Nat, q < H.size → H1[q]? = H[q]?) (ha : ft_at D (ft_new h kd f) H1 h.2.2) : ft_A D (ft_new h kd f) H1 := by
  refine ⟨by rw [z, hA.1]; rfl, Nat.le_succ_of_le hA.2.1, fun b => ?_⟩
  by_cases hb : b = h.2.2
  · subst hb; exact ha
  · obtain ⟨e1, e2⟩ := ft_new_ne (kd := kd) (f := f) hb
    by_cases hn : ft_kd (h.2.1 b).1 = none
    · unfold ft_at
      rw [e2, hn]
      trivial
    · exact ft_at.kept (oq b ((hA.2.2 b).lt hn)) e1 e2 (hA.2.2 b)
theorem sm_newA {at_ : ArrayType} {n : Int32} {N kd : Nat} (hd : decode (ft_m y).2.1 pc = .ok (.newarray at_, 2)) (hw : Cond.arrayClass (newarray.typeOf at_) ∈ ft_tb) (hkd : ft_kd kd = some (.inr (newarray.typeOf at_))) (hra : ∀ C, newarray.typeOf at_ ≠ .object C) (hn : ¬ n < 0) (hN : n.toNatClampNeg = N) (hb : N * componentBytes (newarray.typeOf at_) ≤ 536870912) (h1 : uc + 1 ≤ ft_mc y) (h2 : us + N ≤ ft_mz y)
    (k : sm D y (pc + 2) lv (.ref h.2.2 :: r) (ft_new h (kd, N) (fun _ => defaultValue (newarray.typeOf at_))) (uc + 1) (us + N) Q) : sm D y pc lv (.int n :: r) h uc us Q := by
  intro p l e R s m args below meth c H locs Z ls C rt hl hA hS
  have hc1 := C.2.2.2.2.2.2.2.2.2.2.2.1
  have hc2 := C.2.2.2.2.2.2.2.2.2.2.2.2.1
  refine va_newaK C.1 C.2.1 (C.2.2.2.2.1 _ hw) rfl hd rfl hn hN hb (Nat.le_trans h1 hc1) (Nat.le_trans h2 hc2) hA.1 fun H' cA e1 e2 e3 hAr hnm => ?_
  have hRA := (C.2.2.2.2.2.1.2.1 _ (ft_kd_mem hkd)).2
  have hcA : s.vm.findClass ("[" ++ (newarray.typeOf at_).toString) = some (D.2.2.1 (newarray.typeOf at_)) := by
    unfold va_RA at hRA
    split at hRA
    · rename_i C' e; exact absurd e (hra C')
    · exact hRA
  have hcc : cA = D.2.2.1 (newarray.typeOf at_) := Option.some.inj (hnm.symm.trans hcA)
  subst hcc
  refine k p l e R s m args below meth c H' locs Z ls C rt hl (hA.new (by rw [e2, hA.1]) (fun q hq => e3 q (by rw [← hA.1]; exact hq)) ?_) ⟨Nat.le_trans hS.1 (by rw [e2, hA.1]; omega), fun x q1 q2 => (e3 x (by rw [← hA.1]; exact Nat.lt_of_lt_of_le q1 hS.1)).trans (hS.2.1 x q1 q2), hS.2.2⟩
  unfold ft_at
  rw [ft_new_K, ft_new_V]
  simp only [hkd]
  exact e1
end FTB
