/-! the pictured heap: what each place of each cell holds, which kind of cell it is (0: not pictured; 1 ..: an object of a class of ft_cl; behind these: arrays, by ft_ak) and how long, the next address -/
abbrev ft_H : Type := (Nat → Nat → Value) × (Nat → Nat × Nat) × Nat
def ft_set (h : ft_H) (a k : Nat) (v : Value) : ft_H := (fun b j => if b = a ∧ j = k then v else h.1 b j, h.2)
def ft_new (h : ft_H) (kd : Nat × Nat) (f : Nat → Value) : ft_H := (fun b j => if b = h.2.2 then f j else h.1 b j, fun b => if b = h.2.2 then kd else h.2.1 b, h.2.2 + 1)
def ft_kd (c : Nat) : Option (Nat ⊕ FieldType) := match c with
  | 0 => none
  | c + 1 => if c < ft_nc then some (.inl c) else (ft_ak[c - ft_nc]?).map .inr
/-- classes' numbers, fields' slots, classes of arrays, the first address that is ours, the static arrays, the script -/
abbrev ft_G : Type := (Nat → ClassId) × (Nat → Nat → Nat) × (FieldType → ClassId) × Nat × (Nat → Nat) × Nat × Nat × (Nat → Int32)
/-- what the static arrays hold (AT_FIRST, LEAST, MOST) -/
def ft_sv (k j : Nat) : Int32 := (([[100, 2, 1, 1], [16, 1, 0, 1], [255, 20, 1, 2]] : List (List Int32)).getD k []).getD j 0
/-- the words that keep no method's list, but travel with the world -/
def ft_nestW : Jvm.Cond → Bool
  | .methodLinkNest _ _ _ _ => true
  | .fieldLinkNest _ _ _ _ _ _ => true
  | .arrayOver (.object _) => true
  | _ => false
/-- the words that are used -/
def ft_tb : List Jvm.Cond := lw_tbl.filter (fun w => goodWord w || ft_nestW w)
def ft_good : List Jvm.Cond := lw_tbl.filter goodWord
abbrev ft_B (D : ft_G) : Nat := D.2.2.2.1
abbrev ft_own (D : ft_G) : Nat → Prop := fun q => D.2.2.2.1 ≤ q
def ft_at (D : ft_G) (h : ft_H) (H : Heap) (a : Nat) : Prop := match ft_kd (h.2.1 a).1 with
  | none => True
  | some (.inl ci) => ∃ r : vw_C, ft_cl[ci]? = some r ∧ t_OB a (D.1 ci) r.2.2 (D.2.1 ci) H (h.1 a)
  | some (.inr ty) => H[a]? = some (arrV (D.2.2.1 ty) (h.2.1 a).2 (h.1 a))
def ft_A (D : ft_G) (h : ft_H) (H : Heap) : Prop := H.size = h.2.2 ∧ ft_B D ≤ h.2.2 ∧ ∀ a : Nat, ft_at D h H a
/-- what the tables say, of a state -/
def ft_K (D : ft_G) (U : State) : Prop := (∀ (c : Nat) (q : vw_C), ft_cl[c]? = some q → u_Kn U q.1 q.2.1 q.2.2 (D.1 c) (D.2.1 c)) ∧ (∀ ty ∈ ft_ak, ArrOfT U (D.2.2.1 ty) ty ∧ va_RA U (D.2.2.1 ty) ty) ∧
  (∀ (k : Nat) (q : String × String × String), ft_st[k]? = some q → va_Z q.1 q.2.1 q.2.2 (.ref (D.2.2.2.2.1 k)) (ft_own D) U U.heap ∧ va_T .int (D.2.2.2.2.1 k) 4 (fun j => .int (ft_sv k j)) (ft_own D) U U.heap) ∧
  (∀ w ∈ ft_tb, ft_nestW w = true → w.before #[] U = true) ∧ va_X D.2.2.2.2.2.1 D.2.2.2.2.2.2.1 D.2.2.2.2.2.2.2 U U.heap ∧ D.2.2.2.2.2.1 < ft_B D ∧ ft_B D ≤ U.heap.size
def ft_C (D : ft_G) (y : Nat) (p : Program) (R : Room) (s : State) (m : MethodId) (args : Array Value) (meth : Method) (c : Code) : Prop :=
  p.tables.exec = Jvm.exec ∧ c.code = (ft_m y).2.1 ∧ c.maxLocals = (ft_m y).2.2.1 ∧ s.vm.findClass (ft_m y).1.cls = some m.cls ∧ (∀ w ∈ ft_tb, w.before args s = true) ∧ ft_K D s ∧ meth.name = (ft_m y).1.name ∧ meth.locks = false ∧ meth.sig.returnType = (ft_m y).2.2.2.1 ∧
  (ft_m y).2.2.2.2.1 ≤ R.frames ∧ (ft_m y).2.2.2.2.2.1 ≤ R.locals ∧ (ft_m y).2.2.2.2.2.2.1 ≤ R.cells ∧ (ft_m y).2.2.2.2.2.2.2 ≤ R.slots ∧ ft_B D ≤ s.heap.size
abbrev ft_mc (y : Nat) : Nat := (ft_m y).2.2.2.2.2.2.1
abbrev ft_mz (y : Nat) : Nat := (ft_m y).2.2.2.2.2.2.2
abbrev ft_nL (y : Nat) : Nat := (ft_m y).2.2.1
/-- an answer of a kind, and the instruction that gives it -/
def ft_ret (ty : Option FieldType) (v : Option Value) (i : Instr) : Prop := match ty, v, i with
  | none, none, .return_ => True
  | some .int, some (.int _), .ireturn => True
  | some .boolean, some (.int x), .ireturn => narrow .boolean (.int x) = .int x
  | some .long, some (.long _), .lreturn => True
  | some (.object _), some .null, .areturn => True
  | some (.object _), some (.ref _), .areturn => True
  | _, _, _ => False
/-- FROM HERE method y comes to an end, with an answer and a heap of Q -/
def sm (D : ft_G) (y pc : Nat) (lv : List (Nat × Value)) (st : List Value) (h : ft_H) (uc us : Nat) (Q : Option Value → ft_H → Prop) : Prop :=
  ∀ (p : Program) (l : Launch) (e : Env) (R : Room) (s : State) (m : MethodId) (args : Array Value) (below : List Frame) (meth : Method) (c : Code) (H : Heap) (locs : List Loc) (Z : State → Prop) (ls : Array Slot),
    ft_C D y p R s m args meth c →
    (∀ (pc' : Nat) (ls' : Array Slot) (i : Instr) (v : Option Value) (h' : ft_H) (H' : Heap) (locs' : List Loc), Q v h' → ft_A D h' H' → va_S (ft_own D) s.heap H' locs' → ft_ret (ft_m y).2.2.2.1 v i → decode (ft_m y).2.1 pc' = .ok (i, 1) →
      W p l e R s m args below meth c H' locs' (ft_mc y) (ft_mz y) Z (F0 m pc' ls' v.toList)) →
    lv_has ls (ft_nL y) lv → ft_A D h H → va_S (ft_own D) s.heap H locs →
    W p l e R s m args below meth c H locs uc us Z (F0 m pc ls st)
theorem sm.mono {D : ft_G} {y pc : Nat} {lv : List (Nat × Value)} {st : List Value} {h : ft_H} {uc us : Nat} {Q Q' : Option Value → ft_H → Prop} (k : sm D y pc lv st h uc us Q) (hq : ∀ v h', Q v h' → Q' v h') : sm D y pc lv st h uc us Q' := by
  intro p l e R s m args below meth c H locs Z ls C r hl hA hS
  exact k p l e R s m args below meth c H locs Z ls C (fun pc' ls' i v h' H' locs' q a b d f => r pc' ls' i v h' H' locs' (hq v h' q) a b d f) hl hA hS
/-- a row of the kit that leaves the heap as it is -/
theorem sm_pure {D : ft_G} {y pc pc' : Nat} {lv lv' : List (Nat × Value)} {st st' : List Value} {h : ft_H} {uc us : Nat} {Q : Option Value → ft_H → Prop}
    (row : ∀ (p : Program) (l : Launch) (e : Env) (R : Room) (s : State) (m : MethodId) (args : Array Value) (below : List Frame) (meth : Method) (c : Code) (H : Heap) (locs : List Loc) (Z : State → Prop) (ls : Array Slot), ft_C D y p R s m args meth c → lv_has ls (ft_nL y) lv → ft_A D h H → va_S (ft_own D) s.heap H locs →
      (∀ ls' : Array Slot, lv_has ls' (ft_nL y) lv' → W p l e R s m args below meth c H locs uc us Z (F0 m pc' ls' st')) → W p l e R s m args below meth c H locs uc us Z (F0 m pc ls st))
    (k : sm D y pc' lv' st' h uc us Q) : sm D y pc lv st h uc us Q := by
  intro p l e R s m args below meth c H locs Z ls C r hl hA hS
  exact row p l e R s m args below meth c H locs Z ls C hl hA hS (fun ls' hl' => k p l e R s m args below meth c H locs Z ls' C r hl' hA hS)
