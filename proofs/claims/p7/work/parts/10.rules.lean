section FTR
variable {D : ft_G} {y pc : Nat} {lv : List (Nat × Value)} {r : List Value} {h : ft_H} {uc us : Nat} {Q : Option Value → ft_H → Prop}
theorem r_if {cn : Jvm.ClassFile.Cond} {off : Int} {x : Int32} {tgt : Nat} (hc : ft_chk y = true) (hk : ft_lk pc (ft_c y) = some (.ifCond cn off, 3, [])) (ht : (pc : Int) + off = (tgt : Int)) (kt : ft_cond1 cn x → sm D y tgt lv r h uc us Q) (kf : ¬ ft_cond1 cn x → sm D y (pc + 3) lv r h uc us Q) : sm D y pc lv (.int x :: r) h uc us Q :=
  sm_if (ft_row_ok hc hk).1 ht kt kf
theorem r_icmp {cn : Jvm.ClassFile.Cond} {off : Int} {x z : Int32} {tgt : Nat} (hc : ft_chk y = true) (hk : ft_lk pc (ft_c y) = some (.if_icmp cn off, 3, [])) (ht : (pc : Int) + off = (tgt : Int)) (kt : ft_cond2 cn x z → sm D y tgt lv r h uc us Q) (kf : ¬ ft_cond2 cn x z → sm D y (pc + 3) lv r h uc us Q) : sm D y pc lv (.int z :: .int x :: r) h uc us Q :=
  sm_icmp (ft_row_ok hc hk).1 ht kt kf
theorem r_swOut {dflt lo hi : Int} {offs : Array Int} {len tgt : Nat} {x : Int32} (hc : ft_chk y = true) (hk : ft_lk pc (ft_c y) = some (.tableswitch dflt lo hi offs, len, [])) (hx : x.toInt < lo ∨ hi < x.toInt) (ht : (pc : Int) + dflt = (tgt : Int)) (k : sm D y tgt lv r h uc us Q) : sm D y pc lv (.int x :: r) h uc us Q :=
  sm_swOut (ft_row_ok hc hk).1 hx ht k
theorem r_swIn {dflt lo hi off : Int} {offs : Array Int} {len tgt : Nat} {x : Int32} (hc : ft_chk y = true) (hk : ft_lk pc (ft_c y) = some (.tableswitch dflt lo hi offs, len, [])) (h1 : ¬ x.toInt < lo) (h2 : ¬ hi < x.toInt) (ho : offs[(x.toInt - lo).toNat]? = some off) (ht : (pc : Int) + off = (tgt : Int)) (k : sm D y tgt lv r h uc us Q) : sm D y pc lv (.int x :: r) h uc us Q :=
  sm_swIn (ft_row_ok hc hk).1 h1 h2 ho ht k
theorem r_ret {i : Instr} {v : Option Value} (hc : ft_chk y = true) (hk : ft_lk pc (ft_c y) = some (i, 1, [])) (hi : ft_ret (ft_m y).2.2.2.1 v i) (h1 : uc ≤ ft_mc y) (h2 : us ≤ ft_mz y) (hq : Q v h) : sm D y pc lv v.toList h uc us Q :=
  sm_ret (ft_row_ok hc hk).1 hi h1 h2 hq
theorem r_callV {z ix a ci nest jl jc ji js je : Nat} {as : List Value} {Qz : Option Value → ft_H → Prop} (hc : ft_chk y = true) (hk : ft_lk pc (ft_c y) = some (.invokevirtual ix, 3, [nest, z, jl, jc, ji, js, je])) (hz : ft_zok z) (hn : as.length = ft_np z) (hci : ci < ft_nc) (hcc : (ft_cd ci).1 = (ft_m z).1.cls) (hka : (h.2.1 a).1 = ci + 1)
    (hw : (r.map fun v => v.category).sum ≤ 8) (hle : (lg_sl (.ref a :: as)).length ≤ ft_nL z) (h1 : uc + ft_mc z ≤ ft_mc y) (h2 : us + ft_mz z ≤ ft_mz y)
    (kz : sm D z 0 (lv_args 0 (.ref a :: as)) [] h 0 0 Qz) (kk : ∀ (v : Option Value) (h' : ft_H), Qz v h' → sm D y (pc + 3) lv (v.toList ++ r) h' (uc + ft_mc z) (us + ft_mz z) Q) : sm D y pc lv (as.reverse ++ .ref a :: r) h uc us Q := by
  obtain ⟨hd, -, ho⟩ := ft_row_ok hc hk
  simp only [ft_ok, Bool.and_eq_true] at ho
  exact sm_callV hd (by rw [hn]; exact ft_cokB_ok hz ho.1.1.1) (ft_lnk_ok ho.1.1.2) (ft_has_in ho.1.2) (ft_has_in ho.2) hci hcc hka hw hle h1 h2 kz kk
theorem r_callS {z ix nest jl jc ji js : Nat} {as : List Value} {Qz : Option Value → ft_H → Prop} (hc : ft_chk y = true) (hk : ft_lk pc (ft_c y) = some (.invokestatic ix, 3, [nest, z, jl, jc, ji, js])) (hz : ft_zok z) (hn : as.length = ft_np z)
    (hw : (r.map fun v => v.category).sum ≤ 8) (hle : (lg_sl as).length ≤ ft_nL z) (h1 : uc + ft_mc z ≤ ft_mc y) (h2 : us + ft_mz z ≤ ft_mz y)
    (kz : sm D z 0 (lv_args 0 as) [] h 0 0 Qz) (kk : ∀ (v : Option Value) (h' : ft_H), Qz v h' → sm D y (pc + 3) lv (v.toList ++ r) h' (uc + ft_mc z) (us + ft_mz z) Q) : sm D y pc lv (as.reverse ++ r) h uc us Q := by
  obtain ⟨hd, -, ho⟩ := ft_row_ok hc hk
  simp only [ft_ok, Bool.and_eq_true] at ho
  exact sm_callS hd (by rw [hn]; exact ft_cokB_ok hz ho.1.1) (ft_lnk_ok ho.1.2) (ft_has_in ho.2) hw hle h1 h2 kz kk
theorem r_callI {z ix a nest jl jc ji js : Nat} {as : List Value} {Qz : Option Value → ft_H → Prop} (hc : ft_chk y = true) (hk : ft_lk pc (ft_c y) = some (.invokespecial ix, 3, [nest, z, jl, jc, ji, js])) (hz : ft_zok z) (hn : as.length = ft_np z)
    (hw : (r.map fun v => v.category).sum ≤ 8) (hle : (lg_sl (.ref a :: as)).length ≤ ft_nL z) (h1 : uc + ft_mc z ≤ ft_mc y) (h2 : us + ft_mz z ≤ ft_mz y)
    (kz : sm D z 0 (lv_args 0 (.ref a :: as)) [] h 0 0 Qz) (kk : ∀ (v : Option Value) (h' : ft_H), Qz v h' → sm D y (pc + 3) lv (v.toList ++ r) h' (uc + ft_mc z) (us + ft_mz z) Q) : sm D y pc lv (as.reverse ++ .ref a :: r) h uc us Q := by
  obtain ⟨hd, -, ho⟩ := ft_row_ok hc hk
  simp only [ft_ok, Bool.and_eq_true, decide_eq_true_eq] at ho
  exact sm_callI hd (by rw [hn]; exact ft_cokB_ok hz ho.1.1.1.1) (ft_lnk_ok ho.1.1.1.2) (ft_has_in ho.1.1.2) ho.1.2 ho.2 hw hle h1 h2 kz kk
theorem r_newO (g : Nat) {ix ci jl jn ji : Nat} (hc : ft_chk y = true) (hk : ft_lk pc (ft_c y) = some (.new ix, 3, [ci, jl, jn, ji])) (h1 : uc + 1 ≤ ft_mc y) (h2 : us + (ft_cd ci).2.2 ≤ ft_mz y)
    (k : sm D y (pc + 3) lv (.ref h.2.2 :: r) (ft_new h (ci + 1, g) (fun k => defaultValue (ft_ty ci k))) (uc + 1) (us + (ft_cd ci).2.2) Q) : sm D y pc lv r h uc us Q := by
  obtain ⟨hd, -, ho⟩ := ft_row_ok hc hk
  simp only [ft_ok, Bool.and_eq_true, decide_eq_true_eq] at ho
  exact sm_newO hd ho.1.1.1 (ft_has_in ho.1.1.2) (ft_has_in ho.1.2) (ft_has_in ho.2) h1 h2 k
theorem r_newA {at_ : ArrayType} {n : Int32} {N kd j : Nat} (hc : ft_chk y = true) (hk : ft_lk pc (ft_c y) = some (.newarray at_, 2, [kd, j])) (hn : ¬ n < 0) (hN : n.toNatClampNeg = N) (hb : N * componentBytes (newarray.typeOf at_) ≤ 536870912) (h1 : uc + 1 ≤ ft_mc y) (h2 : us + N ≤ ft_mz y)
    (k : sm D y (pc + 2) lv (.ref h.2.2 :: r) (ft_new h (kd, N) (fun _ => defaultValue (newarray.typeOf at_))) (uc + 1) (us + N) Q) : sm D y pc lv (.int n :: r) h uc us Q := by
  obtain ⟨hd, -, ho⟩ := ft_row_ok hc hk
  simp only [ft_ok, Bool.and_eq_true, decide_eq_true_eq] at ho
  exact sm_newA hd (ft_has_in ho.1) ho.2 (by intro C; cases at_ <;> simp [newarray.typeOf]) hn hN hb h1 h2 k
theorem r_newQ {ix ci kd jl jo : Nat} {n : Int32} {N : Nat} (hc : ft_chk y = true) (hk : ft_lk pc (ft_c y) = some (.anewarray ix, 3, [kd, jl, jo, ci])) (hn : ¬ n < 0) (hN : n.toNatClampNeg = N) (hb : N * 4 ≤ 536870912) (h1 : uc + 1 ≤ ft_mc y) (h2 : us + N ≤ ft_mz y)
    (k : sm D y (pc + 3) lv (.ref h.2.2 :: r) (ft_new h (kd, N) (fun _ => .null)) (uc + 1) (us + N) Q) : sm D y pc lv (.int n :: r) h uc us Q := by
  obtain ⟨hd, -, ho⟩ := ft_row_ok hc hk
  simp only [ft_ok, Bool.and_eq_true, decide_eq_true_eq] at ho
  exact sm_newQ hd (ft_has_in ho.1.1.2) (ft_has_in ho.1.2) ho.2 hn hN hb h1 h2 k
end FTR
