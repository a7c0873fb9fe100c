theorem ft_K.go {D : ft_G} {s U : State} {H : Heap} {locs : List Loc} (hK : ft_K D s) (hS : va_S (ft_own D) s.heap H locs) (hU : U.heap = H) (hW : s.WarmedH U.vm) : ft_K D U := by
  obtain ⟨h1, h2, h3, h4, h5, h6, h7⟩ := hK
  have ha := hW.alike
  have hq : ∀ a : Nat, a < s.heap.size → ¬ ft_own D a → U.heap[a]? = s.heap[a]? := fun a p1 p2 => by rw [hU]; exact hS.2.1 a p1 p2
  refine ⟨fun c q hc => u_Kn_moved ha (h1 c q hc), fun ty ht => ⟨arrOfT_moved ha (h2 ty ht).1, (h2 ty ht).2.moved ha⟩, fun k q hk => ⟨((h3 k q hk).1.moved ha).kept hq, ((h3 k q hk).2.moved ha).kept hq⟩, fun w hw hn => ?_, (h5.moved ha).kept (hq _ (Nat.lt_of_lt_of_le h6 h7) (Nat.not_le.mpr h6)), h6, ?_⟩
  · have hb := h4 w hw hn
    match w, hn, hb with
    | .methodLinkNest a i x hst, _, hb => exact va_Nw.warmM hW hb
    | .fieldLinkNest a i b n d hst, _, hb => exact va_Nw.warmF hW hb
    | .arrayOver (.object C), _, hb => exact va_AO.moved ha hb
  · rw [hU]
    exact Nat.le_trans h7 hS.1
theorem ft_K.at {D : ft_G} {u U : State} (hvm : u.vm.Alike U.vm) (hh : U.heap = u.heap) (hw : ∀ w ∈ ft_tb, ft_nestW w = true → w.before #[] u = true → w.before #[] U = true) (hK : ft_K D u) : ft_K D U := by
  obtain ⟨h1, h2, h3, h4, h5, h6, h7⟩ := hK
  exact ⟨fun c q hc => u_Kn_moved hvm (h1 c q hc), fun ty ht => ⟨arrOfT_moved hvm (h2 ty ht).1, (h2 ty ht).2.moved hvm⟩, fun k q hk => by rw [hh]; exact ⟨(h3 k q hk).1.moved hvm, (h3 k q hk).2.moved hvm⟩, fun w hq hn => hw w hq hn (h4 w hq hn), by rw [hh]; exact h5.moved hvm, h6, by rw [hh]; exact h7⟩
/-- the words of a method: its code first, then the good ones -/
def ft_ws (y : Nat) : List Jvm.Cond := Cond.code (ft_m y).1 (ft_m y).2.1 (ft_m y).2.2.1 (ft_m y).2.2.2.1 :: ft_good
def ft_rm (y : Nat) : Room := { frames := (ft_m y).2.2.2.2.1, cells := ft_mc y, slots := ft_mz y, locals := (ft_m y).2.2.2.2.2.1 }
theorem ft_goodIn {y : Nat} (h : Cond.code (ft_m y).1 (ft_m y).2.1 (ft_m y).2.2.1 (ft_m y).2.2.2.1 ∈ ft_tb) : GoodIn ft_tb (ft_ws y) := by
  intro w hw
  rcases List.mem_cons.mp hw with rfl | hw
  · exact ⟨h, Or.inl rfl⟩
  · obtain ⟨h1, h2⟩ := List.mem_filter.mp hw
    exact ⟨List.mem_filter.mpr ⟨h1, by rw [h2]; rfl⟩, good_of_word h2⟩
/-- what a call starts with, and what it ends with -/
def ft_Pc (D : ft_G) (as : List Value) (h : ft_H) : Array Value → State → Prop := fun v U => v = as.toArray ∧ ft_A D h U.heap ∧ ft_K D U
def ft_Qc (D : ft_G) (Q : Option Value → ft_H → Prop) : Array Value → State → Outcome → State → Prop := fun _ st oc t => (∃ (v : Option Value) (h' : ft_H), oc = .returned v ∧ Q v h' ∧ ft_A D h' t.heap) ∧ va_F (ft_own D) st t
theorem ft_ofW {l : Launch} {y : MethodName} {ws ws' : List Jvm.Cond} {rm : Room} {Pc : Array Value → State → Prop} {Qc : Array Value → State → Outcome → State → Prop} {mc ms : Nat} {free : Addr → Prop} {cc : ByteArray} {maxL : Nat} {ret : Option FieldType}
    (hy : plainFor y = true) (hw : ws = Cond.code y cc maxL ret :: ws')
    (body : ∀ p e s m args below meth c s₁, BodyLoose p l y (headSpec ws rm) cc maxL ret e s m args below meth c s₁ → c.maxLocals = maxL → Pc args s →
      W p l e (headSpec ws rm).room s m args below meth c s.heap [] 0 0 (MQ below Qc args s mc ms free) (entryFrame m args maxL)) : Met l y ws rm Pc Qc mc ms free := by
  refine MetFree.of_bodySF (code := cc) (maxLocals := maxL) (ret := ret) hy ?_ ?_
  · intro args s m h hn
    obtain ⟨meth, c, h1, h2, h3, h4, h5, h6, -, -⟩ := Cond.code_spec hn (atoms_spec (ws := ws) h _ (by rw [hw]; exact List.mem_cons_self))
    exact ⟨meth, c, h1, h2, h3, h4, h5, h6⟩
  · intro p e s m args below meth c s₁ B hml hP _
    have hh0 : s₁.heap = s.heap := by rw [B.state]; rfl
    obtain ⟨t, a1, o, b1, b2, b3⟩ := body p e s m args below meth c s₁ B hml hP s₁ hh0 (Stand.of_body B)
    exact ⟨t, o, a1, b1, b2, ⟨b3.1, b3.2⟩⟩
theorem ft_met {D : ft_G} {y : Nat} {as : List Value} {h : ft_H} {Q : Option Value → ft_H → Prop} (l : Launch) (hy : plainFor (ft_m y).1 = true) (hle : (lg_sl as).length ≤ ft_nL y) (k : sm D y 0 (lv_args 0 as) [] h 0 0 Q) : Met l (ft_m y).1 (ft_ws y) (ft_rm y) (ft_Pc D as h) (ft_Qc D Q) (ft_mc y) (ft_mz y) (ft_own D) := by
  refine ft_ofW (cc := (ft_m y).2.1) (maxL := ft_nL y) (ret := (ft_m y).2.2.2.1) hy rfl ?_
  intro p e s m args below meth c s₁ B hml hv
  obtain ⟨rfl, hA, hK⟩ := hv
  have hts0 := atoms_spec (ws := ft_ws y) B.pre
  have hts : ∀ w ∈ ft_tb, w.before as.toArray s = true := by
    intro w hw
    obtain ⟨h1, h2⟩ := List.mem_filter.mp hw
    by_cases hg : goodWord w = true
    · exact hts0 w (List.mem_cons_of_mem _ (List.mem_filter.mpr ⟨h1, hg⟩))
    · have hn : ft_nestW w = true := by simpa [hg] using h2
      have hb := hK.2.2.2.1 w hw hn
      match w, hn, hb with
      | .methodLinkNest a i x hst, _, hb => exact va_Nw.use rfl hb
      | .fieldLinkNest a i b n d hst, _, hb => exact va_Nw.use rfl hb
      | .arrayOver (.object C), _, hb => exact va_AO.use hb
  have hC : ft_C D y p (headSpec (ft_ws y) (ft_rm y)).room s m as.toArray meth c := ⟨B.exec, B.bytes, hml, findClass_of_methodNamed B.named, hts, hK, (name_of_methodNamed B.named B.method).1, B.notSynchronized, B.returns, Nat.le_refl _, Nat.le_refl _, Nat.le_refl _, Nat.le_refl _, hK.2.2.2.2.2.2⟩
  have hl := lv_entry as (n := ft_nL y) hle
  rw [lg_entry_eq]
  refine k p l e _ s m as.toArray below meth c s.heap [] _ _ hC ?_ hl hA va_S.rf
  intro pc' ls' i v h' H' locs' hq hA' hS' hr hd
  have hlocks := B.notSynchronized
  have hret := B.returns
  have fin : ∀ t : State, t.heap = H' → s.WarmedH t.vm → ft_Qc D Q as.toArray s (.returned v) t := fun t ht hW => ⟨⟨v, h', rfl, hq, by rw [ht]; exact hA'⟩, hS'.F ht⟩
  unfold ft_ret at hr
  split at hr
  · rename_i e1
    exact W.vret B.exec B.bytes (hret.trans e1) fin hS'.2.2 hd
  · rename_i e1
    exact W.iret B.exec B.bytes (hret.trans e1) fin hS'.2.2 hd
  · rename_i e1
    exact W.zret B.exec B.bytes (hret.trans e1) hr fin hS'.2.2 hd
  · rename_i e1
    exact W.lret B.exec B.bytes (hret.trans e1) fin hS'.2.2 hd
  · rename_i e1
    exact W.aret B.exec B.bytes (hret.trans e1) (Or.inl ⟨_, rfl⟩) (Or.inl rfl) fin hS'.2.2 hd
  · rename_i e1
    exact W.aret B.exec B.bytes (hret.trans e1) (Or.inl ⟨_, rfl⟩) (Or.inr ⟨_, rfl⟩) fin hS'.2.2 hd
  · cases hr
section FTK
variable {D : ft_G} {y pc : Nat} {lv : List (Nat × Value)} {r : List Value} {h : ft_H} {uc us : Nat} {Q : Option Value → ft_H → Prop}
theorem ft_blind {as : List Value} : FrameBlind (ft_Pc D as h) := by
  intro a U g mk q
  obtain ⟨q1, q2, q3⟩ := q
  refine ⟨q1, q2, ft_K.at (u := U) (U := U.calling g mk a) (Vm.Alike.refl U.vm) rfl (fun w _ hn hb => ?_) q3⟩
  match w, hn, hb with
  | .methodLinkNest a i x hst, _, hb => exact hb
  | .fieldLinkNest a i b n d hst, _, hb => exact hb
  | .arrayOver (.object C), _, hb => exact hb
/-- behind a call -/
theorem sm_ran {z : Nat} {as st0 : List Value} {Qz : Option Value → ft_H → Prop} (kk : ∀ (v : Option Value) (h' : ft_H), Qz v h' → sm D y (pc + 3) lv (v.toList ++ r) h' (uc + ft_mc z) (us + ft_mz z) Q)
    (run : ∀ (p : Program) (l : Launch) (e : Env) (R : Room) (s : State) (m : MethodId) (args : Array Value) (below : List Frame) (meth : Method) (c : Code) (H : Heap) (locs : List Loc) (ls : Array Slot), ft_C D y p R s m args meth c → ls.size = ft_nL y → ft_A D h H → va_S (ft_own D) s.heap H locs →
      va_Run p l e R s m args below meth c H locs uc us (ft_mc z) (ft_mz z) (F0 m pc ls st0) r (ft_Qc D Qz as.toArray) (ft_own D)) : sm D y pc lv st0 h uc us Q := by
  intro p l e R s m args below meth c H locs Z ls C rt hl hA hS T hT X
  obtain ⟨v, st₀, t, T', L, h0, X', hL, e1, e2, ⟨⟨v', h', hv, hq, hA'⟩, hz, hk⟩, st⟩ := run p l e R s m args below meth c H locs ls C hl.1 hA hS T hT X
  cases hv
  rw [h0] at hz hk
  rw [← e1] at hz hk hA'
  have hS' : va_S (ft_own D) s.heap T'.heap (locs ++ L) := ⟨Nat.le_trans hS.1 hz, fun q h1 h2 => by rw [hk q (Nat.lt_of_lt_of_le h1 hS.1) h2]; exact hS.2.1 q h1 h2, fun q hq => (List.mem_append.mp hq).elim (hS.2.2 q) (hL q)⟩
  obtain ⟨t2, a1, b1⟩ := kk v h' hq p l e R s m args below meth c T'.heap (locs ++ L) Z ls C rt hl hA' hS' T' rfl X'
  exact ⟨t2, st t2 a1, b1⟩
theorem ft_pre {as : List Value} {s : State} {H : Heap} {locs : List Loc} (hK : ft_K D s) (hA : ft_A D h H) (hS : va_S (ft_own D) s.heap H locs) : ∀ U : State, U.heap = H → s.WarmedH U.vm → ft_Pc D as h as.toArray U :=
  fun U hU hW => ⟨rfl, by rw [hU]; exact hA, hK.go hS hU hW⟩
/-- what a call asks of the tables and of the room; n: how many arguments -/
def ft_cok (y z n : Nat) : Prop := Cond.code (ft_m z).1 (ft_m z).2.1 (ft_m z).2.2.1 (ft_m z).2.2.2.1 ∈ ft_tb ∧ Cond.initialized (ft_m z).1.cls ∈ ft_tb ∧ plainFor (ft_m z).1 = true ∧
  ((ft_m z).1.cls ≠ "java/lang/invoke/MethodHandle" ∧ (ft_m z).1.cls ≠ "java/lang/invoke/VarHandle" ∧ (parseMethodDescriptor (ft_m z).1.desc).map (fun d => d.parameters.length) = some n) ∧
  (ft_m z).2.2.2.2.1 + 1 ≤ (ft_m y).2.2.2.2.1 ∧ 8 + ((ft_m z).2.2.1 + 11) + (ft_m z).2.2.2.2.2.1 ≤ (ft_m y).2.2.2.2.2.1
theorem sm_callS {z ix : Nat} {as : List Value} {Qz : Option Value → ft_H → Prop} (hd : decode (ft_m y).2.1 pc = .ok (.invokestatic ix, 3)) (hok : ft_cok y z as.length) (hl : (∃ host, Cond.methodLinkNest (ft_m y).1.cls ix (ft_m z).1 host ∈ ft_tb) ∨ Cond.methodLink (ft_m y).1.cls ix (ft_m z).1 ∈ ft_tb) (hst : Cond.static (ft_m z).1 ∈ ft_tb)
    (hw : (r.map fun v => v.category).sum ≤ 8) (hle : (lg_sl as).length ≤ ft_nL z) (h1 : uc + ft_mc z ≤ ft_mc y) (h2 : us + ft_mz z ≤ ft_mz y)
    (kz : sm D z 0 (lv_args 0 as) [] h 0 0 Qz) (kk : ∀ (v : Option Value) (h' : ft_H), Qz v h' → sm D y (pc + 3) lv (v.toList ++ r) h' (uc + ft_mc z) (us + ft_mz z) Q) : sm D y pc lv (as.reverse ++ r) h uc us Q := by
  refine sm_ran (z := z) (as := as) kk (fun p l e R s m args below meth c H locs ls C hsz hA hS => ?_)
  obtain ⟨hc, hin, hpl, hdd, hfr, hlo⟩ := hok
  obtain ⟨c1, c2, c3, c4, c5, c6, c7, c8, c9, c10, c11, c12, c13, c14⟩ := C
  have hM := ft_met l hpl hle kz
  rcases hl with ⟨host, hl⟩ | hl
  · exact va_runSN (nL := ft_nL y) (n := as.length) ⟨c1, c2, c3, c4, c5⟩ hM ⟨va_cnB as.length c5 (ft_goodIn hc) rfl rfl rfl (c6.2.2.2.1 _ hl rfl) (c5 _ hin) hdd ⟨Nat.le_trans hfr c10, Nat.le_trans hlo c11⟩, c5 _ hst, trivial⟩ ⟨ft_blind, ft_pre c6 hA hS⟩ rfl rfl hsz rfl (lv_room hw) hd ⟨Nat.le_trans h1 c12, Nat.le_trans h2 c13⟩
  · exact va_runS (nL := ft_nL y) (n := as.length) ⟨c1, c2, c3, c4, c5⟩ hM ⟨callB_of as.length c5 (ft_goodIn hc) rfl rfl rfl (c5 _ hin) (c5 _ hl) hdd ⟨Nat.le_trans hfr c10, Nat.le_trans hlo c11⟩, c5 _ hst⟩ ⟨ft_blind, ft_pre c6 hA hS⟩ rfl rfl hsz rfl (lv_room hw) hd ⟨Nat.le_trans h1 c12, Nat.le_trans h2 c13⟩
theorem sm_callI {z ix a : Nat} {as : List Value} {Qz : Option Value → ft_H → Prop} (hd : decode (ft_m y).2.1 pc = .ok (.invokespecial ix, 3)) (hok : ft_cok y z as.length) (hl : (∃ host, Cond.methodLinkNest (ft_m y).1.cls ix (ft_m z).1 host ∈ ft_tb) ∨ Cond.methodLink (ft_m y).1.cls ix (ft_m z).1 ∈ ft_tb) (hst : Cond.instanceMethod (ft_m z).1 ∈ ft_tb) (hnm : (ft_m z).1.name = "<init>") (hrt : (ft_m z).2.2.2.1 = none)
    (hw : (r.map fun v => v.category).sum ≤ 8) (hle : (lg_sl (.ref a :: as)).length ≤ ft_nL z) (h1 : uc + ft_mc z ≤ ft_mc y) (h2 : us + ft_mz z ≤ ft_mz y)
    (kz : sm D z 0 (lv_args 0 (.ref a :: as)) [] h 0 0 Qz) (kk : ∀ (v : Option Value) (h' : ft_H), Qz v h' → sm D y (pc + 3) lv (v.toList ++ r) h' (uc + ft_mc z) (us + ft_mz z) Q) : sm D y pc lv (as.reverse ++ .ref a :: r) h uc us Q := by
  refine sm_ran (z := z) (as := .ref a :: as) kk (fun p l e R s m args below meth c H locs ls C hsz hA hS => ?_)
  obtain ⟨hc, hin, hpl, hdd, hfr, hlo⟩ := hok
  obtain ⟨c1, c2, c3, c4, c5, c6, c7, c8, c9, c10, c11, c12, c13, c14⟩ := C
  have hM := ft_met l hpl hle kz
  have hG := ft_goodIn hc
  have hws : ft_ws z = Cond.code (ft_m z).1 (ft_m z).2.1 (ft_m z).2.2.1 none :: ft_good := by unfold ft_ws; rw [hrt]
  rcases hl with ⟨host, hl⟩ | hl
  · exact va_runIN (nL := ft_nL y) (n := as.length) ⟨c1, c2, c3, c4, c5⟩ hM ⟨va_cnB as.length c5 hG hws rfl rfl (c6.2.2.2.1 _ hl rfl) (c5 _ hin) hdd ⟨Nat.le_trans hfr c10, Nat.le_trans hlo c11⟩, hnm, c5 _ hst⟩ ⟨ft_blind, ft_pre c6 hA hS⟩ rfl rfl hsz rfl (lv_room hw) hd ⟨Nat.le_trans h1 c12, Nat.le_trans h2 c13⟩
  · exact va_runI (nL := ft_nL y) (n := as.length) ⟨c1, c2, c3, c4, c5⟩ hM (cwI as.length c5 hG hws rfl rfl (c5 _ hin) (c5 _ hl) (c5 _ hst) hnm hdd ⟨Nat.le_trans hfr c10, Nat.le_trans hlo c11⟩) ⟨ft_blind, ft_pre c6 hA hS⟩ rfl rfl hsz rfl (lv_room hw) hd ⟨Nat.le_trans h1 c12, Nat.le_trans h2 c13⟩
theorem sm_callV {z ix a ci : Nat} {as : List Value} {Qz : Option Value → ft_H → Prop} (hd : decode (ft_m y).2.1 pc = .ok (.invokevirtual ix, 3)) (hok : ft_cok y z as.length) (hl : (∃ host, Cond.methodLinkNest (ft_m y).1.cls ix (ft_m z).1 host ∈ ft_tb) ∨ Cond.methodLink (ft_m y).1.cls ix (ft_m z).1 ∈ ft_tb) (hst : Cond.instanceMethod (ft_m z).1 ∈ ft_tb) (hse : Cond.selects (ft_m z).1.cls (ft_m z).1 (ft_m z).1 ∈ ft_tb)
    (hci : ci < ft_nc) (hcc : (ft_cd ci).1 = (ft_m z).1.cls) (hka : (h.2.1 a).1 = ci + 1)
    (hw : (r.map fun v => v.category).sum ≤ 8) (hle : (lg_sl (.ref a :: as)).length ≤ ft_nL z) (h1 : uc + ft_mc z ≤ ft_mc y) (h2 : us + ft_mz z ≤ ft_mz y)
    (kz : sm D z 0 (lv_args 0 (.ref a :: as)) [] h 0 0 Qz) (kk : ∀ (v : Option Value) (h' : ft_H), Qz v h' → sm D y (pc + 3) lv (v.toList ++ r) h' (uc + ft_mc z) (us + ft_mz z) Q) : sm D y pc lv (as.reverse ++ .ref a :: r) h uc us Q := by
  refine sm_ran (z := z) (as := .ref a :: as) kk (fun p l e R s m args below meth c H locs ls C hsz hA hS => ?_)
  obtain ⟨hc, hin, hpl, hdd, hfr, hlo⟩ := hok
  obtain ⟨c1, c2, c3, c4, c5, c6, c7, c8, c9, c10, c11, c12, c13, c14⟩ := C
  have hM := ft_met l hpl hle kz
  have hG := ft_goodIn hc
  have hrecv : ∃ cellB : Cell, H[a]? = some cellB ∧ cellB.vm.isStatics = false ∧ s.vm.findClass (ft_m z).1.cls = some cellB.cls := by
    obtain ⟨cell, q1, q2, q3, q4⟩ := hA.obj hci hka
    exact ⟨cell, q1, by rw [q3]; rfl, by rw [q2, ← hcc]; exact (c6.1 ci _ (ft_cd_at hci)).2.1⟩
  rcases hl with ⟨host, hl⟩ | hl
  · exact va_runVN (nL := ft_nL y) (n := as.length) ⟨c1, c2, c3, c4, c5⟩ hM ⟨va_cnB as.length c5 hG rfl rfl rfl (c6.2.2.2.1 _ hl rfl) (c5 _ hin) hdd ⟨Nat.le_trans hfr c10, Nat.le_trans hlo c11⟩, c5 _ hst, c5 _ hse⟩ ⟨ft_blind, hrecv, ft_pre c6 hA hS⟩ rfl rfl hsz rfl (lv_room hw) hd ⟨Nat.le_trans h1 c12, Nat.le_trans h2 c13⟩
  · exact va_runV (nL := ft_nL y) (n := as.length) ⟨c1, c2, c3, c4, c5⟩ hM ⟨callB_of as.length c5 hG rfl rfl rfl (c5 _ hin) (c5 _ hl) hdd ⟨Nat.le_trans hfr c10, Nat.le_trans hlo c11⟩, c5 _ hst, c5 _ hse⟩ ⟨ft_blind, hrecv, ft_pre c6 hA hS⟩ rfl rfl hsz rfl (lv_room hw) hd ⟨Nat.le_trans h1 c12, Nat.le_trans h2 c13⟩
end FTK
