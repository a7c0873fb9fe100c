def ft_lk {α : Type} (k : Nat) : List (Nat × α) → Option α
  | [] => none
  | (j, a) :: r => if j = k then some a else ft_lk k r
theorem ft_lk_mem {α : Type} {k : Nat} {a : α} : ∀ {l : List (Nat × α)}, ft_lk k l = some a → (k, a) ∈ l
  | [], h => by cases h
  | (j, b) :: r, h => by
    unfold ft_lk at h
    split at h
    · rename_i e
      cases h
      subst e
      exact List.mem_cons_self
    · exact List.mem_cons_of_mem _ (ft_lk_mem h)
theorem ft_lv {ls : Array Slot} {n k : Nat} {lv : List (Nat × Value)} {v : Value} (hl : lv_has ls n lv) (h : ft_lk k lv = some v) : ls[k]? = some (.val v) := hl.2.2 _ (ft_lk_mem h)
def ft_s1 (lv : List (Nat × Value)) (i : Nat) (v : Value) : List (Nat × Value) := (i, v) :: lv.filter (fun q => !(q.1 == i) && !(q.1 + 1 == i && q.2.category == 2))
def ft_s2 (lv : List (Nat × Value)) (i : Nat) (v : Value) : List (Nat × Value) := (i, v) :: lv.filter (fun q => !(q.1 == i) && (!(q.1 == i + 1) && !(q.1 + 1 == i && q.2.category == 2)))
abbrev ft_PR : Type := List Prop × Nat × List (Nat × Value) × List Value
def ft_tgt (pc : Nat) (off : Int) : Nat := ((pc : Int) + off).toNat
theorem ft_k8 : ∀ k : Nat, k < 128 → (Int8.ofInt (Int.ofNat k)).toInt32 = nI k := by decide +kernel
theorem ft_k16 (k : Nat) (hk : k < 32768) : (Int16.ofInt (Int.ofNat k)).toInt32 = nI k := by
  apply Int32.toInt_inj.mp
  rw [nI_toInt (by omega), Int16.toInt_toInt32, Int16.toInt_ofInt]
  exact Int.bmod_eq_of_le (by simp <;> omega) (by simp <;> omega)
theorem ft_k32 (k : Nat) : Int32.ofInt (Int.ofNat k) = nI k := Int32.ofInt_eq_ofNat
def ft_p (i : Instr) (pr : List Nat) (pc nL : Nat) (lv : List (Nat × Value)) (st : List Value) : Option ft_PR := match i with
  | .iconst n => match n with
    | .ofNat k => some ([], pc + 1, lv, .int (nI k) :: st)
    | .negSucc k => some ([], pc + 1, lv, .int (Int32.ofInt (.negSucc k)) :: st)
  | .bipush n => match n with
    | .ofNat k => if k < 128 then some ([], pc + 2, lv, .int (nI k) :: st) else none
    | .negSucc k => some ([], pc + 2, lv, .int (Int8.ofInt (.negSucc k)).toInt32 :: st)
  | .sipush n => match n with
    | .ofNat k => if k < 32768 then some ([], pc + 3, lv, .int (nI k) :: st) else none
    | .negSucc k => some ([], pc + 3, lv, .int (Int16.ofInt (.negSucc k)).toInt32 :: st)
  | .lconst n => some ([], pc + 1, lv, .long (lN (n : Nat)) :: st)
  | .aconst_null => some ([], pc + 1, lv, .null :: st)
  | .ldc _ => match pr with
    | [_, v] => some ([], pc + 2, lv, .int (nI v) :: st)
    | _ => none
  | .ldc_w _ => match pr with
    | [_, v] => some ([], pc + 3, lv, .int (nI v) :: st)
    | _ => none
  | .ldc2_w _ => match pr with
    | [_, v] => some ([], pc + 3, lv, .long (lN v) :: st)
    | _ => none
  | .iload k => match ft_lk k lv with
    | some (.int x) => some ([], pc + 2, lv, .int x :: st)
    | _ => none
  | .iload_n k => match ft_lk (k : Nat) lv with
    | some (.int x) => some ([], pc + 1, lv, .int x :: st)
    | _ => none
  | .lload k => match ft_lk k lv with
    | some (.long x) => some ([], pc + 2, lv, .long x :: st)
    | _ => none
  | .lload_n k => match ft_lk (k : Nat) lv with
    | some (.long x) => some ([], pc + 1, lv, .long x :: st)
    | _ => none
  | .aload k => match ft_lk k lv with
    | some (.ref x) => some ([], pc + 2, lv, .ref x :: st)
    | some .null => some ([], pc + 2, lv, .null :: st)
    | _ => none
  | .istore k => match st with
    | .int x :: r => if k < nL then some ([], pc + 2, ft_s1 lv k (.int x), r) else none
    | _ => none
  | .lstore k => match st with
    | .long x :: r => if k + 1 < nL then some ([], pc + 2, ft_s2 lv k (.long x), r) else none
    | _ => none
  | .astore k => match st with
    | .ref x :: r => if k < nL then some ([], pc + 2, ft_s1 lv k (.ref x), r) else none
    | .null :: r => if k < nL then some ([], pc + 2, ft_s1 lv k .null, r) else none
    | _ => none
  | .aload_n k => match ft_lk (k : Nat) lv with
    | some (.ref x) => some ([], pc + 1, lv, .ref x :: st)
    | some .null => some ([], pc + 1, lv, .null :: st)
    | _ => none
  | .istore_n k => match st with
    | .int x :: r => if (k : Nat) < nL then some ([], pc + 1, ft_s1 lv (k : Nat) (.int x), r) else none
    | _ => none
  | .lstore_n k => match st with
    | .long x :: r => if (k : Nat) + 1 < nL then some ([], pc + 1, ft_s2 lv (k : Nat) (.long x), r) else none
    | _ => none
  | .astore_n k => match st with
    | .ref x :: r => if (k : Nat) < nL then some ([], pc + 1, ft_s1 lv (k : Nat) (.ref x), r) else none
    | .null :: r => if (k : Nat) < nL then some ([], pc + 1, ft_s1 lv (k : Nat) .null, r) else none
    | _ => none
  | .iinc k n => match ft_lk k lv with
    | some (.int x) => if k < nL then (match n with
      | .ofNat c => some ([], pc + 3, ft_s1 lv k (.int (x + nI c)), st)
      | .negSucc c => some ([], pc + 3, ft_s1 lv k (.int (x + Int32.ofInt (.negSucc c))), st)) else none
    | _ => none
  | .iadd => match st with
    | .int y :: .int x :: r => some ([], pc + 1, lv, .int (x + y) :: r)
    | _ => none
  | .isub => match st with
    | .int y :: .int x :: r => some ([], pc + 1, lv, .int (x - y) :: r)
    | _ => none
  | .imul => match st with
    | .int y :: .int x :: r => some ([], pc + 1, lv, .int (x * y) :: r)
    | _ => none
  | .iand => match st with
    | .int y :: .int x :: r => some ([], pc + 1, lv, .int (x &&& y) :: r)
    | _ => none
  | .ior => match st with
    | .int y :: .int x :: r => some ([], pc + 1, lv, .int (x ||| y) :: r)
    | _ => none
  | .ixor => match st with
    | .int y :: .int x :: r => some ([], pc + 1, lv, .int (x ^^^ y) :: r)
    | _ => none
  | .ishl => match st with
    | .int y :: .int x :: r => some ([], pc + 1, lv, .int (x <<< (y &&& 31)) :: r)
    | _ => none
  | .ishr => match st with
    | .int y :: .int x :: r => some ([], pc + 1, lv, .int (x >>> (y &&& 31)) :: r)
    | _ => none
  | .ladd => match st with
    | .long y :: .long x :: r => some ([], pc + 1, lv, .long (x + y) :: r)
    | _ => none
  | .lsub => match st with
    | .long y :: .long x :: r => some ([], pc + 1, lv, .long (x - y) :: r)
    | _ => none
  | .lmul => match st with
    | .long y :: .long x :: r => some ([], pc + 1, lv, .long (x * y) :: r)
    | _ => none
  | .land => match st with
    | .long y :: .long x :: r => some ([], pc + 1, lv, .long (x &&& y) :: r)
    | _ => none
  | .lor => match st with
    | .long y :: .long x :: r => some ([], pc + 1, lv, .long (x ||| y) :: r)
    | _ => none
  | .lxor => match st with
    | .long y :: .long x :: r => some ([], pc + 1, lv, .long (x ^^^ y) :: r)
    | _ => none
  | .idiv => match st with
    | .int y :: .int x :: r => some ([¬ y = 0], pc + 1, lv, .int (x / y) :: r)
    | _ => none
  | .irem => match st with
    | .int y :: .int x :: r => some ([¬ y = 0], pc + 1, lv, .int (x - x / y * y) :: r)
    | _ => none
  | .lshl => match st with
    | .int y :: .long x :: r => some ([], pc + 1, lv, .long (x <<< (y.toInt64 &&& 63)) :: r)
    | _ => none
  | .lshr => match st with
    | .int y :: .long x :: r => some ([], pc + 1, lv, .long (x >>> (y.toInt64 &&& 63)) :: r)
    | _ => none
  | .lcmp => match st with
    | .long y :: .long x :: r => some ([], pc + 1, lv, .int (lg_cmp x y) :: r)
    | _ => none
  | .i2l => match st with
    | .int x :: r => some ([], pc + 1, lv, .long x.toInt64 :: r)
    | _ => none
  | .l2i => match st with
    | .long x :: r => some ([], pc + 1, lv, .int x.toInt32 :: r)
    | _ => none
  | .i2b => match st with
    | .int x :: r => some ([], pc + 1, lv, .int x.toInt8.toInt32 :: r)
    | _ => none
  | .dup => match st with
    | v :: r => if v.category = 1 then some ([], pc + 1, lv, v :: v :: r) else none
    | _ => none
  | .pop => match st with
    | v :: r => if v.category = 1 then some ([], pc + 1, lv, r) else none
    | _ => none
  | .dup_x1 => match st with
    | v :: u :: r => if v.category = 1 ∧ u.category = 1 then some ([], pc + 1, lv, v :: u :: v :: r) else none
    | _ => none
  | .dup_x2 => match st with
    | v :: u :: t :: r => if v.category = 1 ∧ u.category = 1 ∧ t.category = 1 then some ([], pc + 1, lv, v :: u :: t :: v :: r) else none
    | _ => none
  | .dup2 => match st with
    | v :: u :: r => if v.category = 1 ∧ u.category = 1 then some ([], pc + 1, lv, v :: u :: v :: u :: r) else none
    | _ => none
  | .goto off => if 0 ≤ (pc : Int) + off then some ([], ft_tgt pc off, lv, st) else none
  | .ifnull off => match st with
    | .ref _ :: r => some ([], pc + 3, lv, r)
    | .null :: r => if 0 ≤ (pc : Int) + off then some ([], ft_tgt pc off, lv, r) else none
    | _ => none
  | .ifnonnull off => match st with
    | .ref _ :: r => if 0 ≤ (pc : Int) + off then some ([], ft_tgt pc off, lv, r) else none
    | .null :: r => some ([], pc + 3, lv, r)
    | _ => none
  | _ => none
def ft_all : List Prop → Prop
  | [] => True
  | p :: r => p ∧ ft_all r
def ft_len (i : Instr) (n : Nat) : Nat := match i with
  | .bipush _ | .ldc _ | .iload _ | .lload _ | .aload _ | .istore _ | .lstore _ | .astore _ | .newarray _ => 2
  | .sipush _ | .ldc_w _ | .ldc2_w _ | .iinc _ _ | .ifCond _ _ | .if_icmp _ _ | .goto _ | .ifnull _ | .ifnonnull _ | .getfield _ | .putfield _ | .getstatic _ | .invokevirtual _ | .invokespecial _ | .invokestatic _ | .new _ | .anewarray _ => 3
  | .tableswitch _ _ _ _ => n
  | _ => 1
theorem ft_tgt_ok {pc : Nat} {off : Int} (h : 0 ≤ (pc : Int) + off) : (pc : Int) + off = (ft_tgt pc off : Int) := (Int.toNat_of_nonneg h).symm
/-- constants of the pool, by the tables -/
def ft_okC (own : String) (i : Instr) (pr : List Nat) : Prop := match i, pr with
  | .ldc ix, [_, v] => Cond.constant own ix (Int32.ofNat v) ∈ ft_tb
  | .ldc_w ix, [_, v] => Cond.constant own ix (Int32.ofNat v) ∈ ft_tb
  | .ldc2_w ix, [_, v] => Cond.constantLong own ix (Int64.ofNat v) ∈ ft_tb
  | _, _ => True
set_option maxHeartbeats 4000000 in
set_option maxRecDepth 100000 in
theorem ft_p_ok {D : ft_G} {y pc pc' n : Nat} {i : Instr} {pr : List Nat} {gs : List Prop} {lv lv' : List (Nat × Value)} {st st' : List Value} {h : ft_H} {uc us : Nat} {Q : Option Value → ft_H → Prop}
    (hd : decode (ft_m y).2.1 pc = .ok (i, n)) (hn : n = ft_len i n) (hc : ft_okC (ft_m y).1.cls i pr) (hp : ft_p i pr pc (ft_nL y) lv st = some (gs, pc', lv', st')) (hg : ft_all gs) (k : sm D y pc' lv' st' h uc us Q) : sm D y pc lv st h uc us Q := by
  match i, hd, hn, hc, hp with
  | .lconst _, hd, hn, hc, hp =>
    rw [hn] at hd
    cases hp
    exact sm_pure (fun p l en R s m args below meth c H locs Z ls C hl hA hS kk => lv_lconst C.1 C.2.1 hd rfl (kk ls hl)) k
  | .aconst_null, hd, hn, hc, hp =>
    rw [hn] at hd
    cases hp
    exact sm_pure (fun p l en R s m args below meth c H locs Z ls C hl hA hS kk => lv_null C.1 C.2.1 hd (kk ls hl)) k
  | .iconst _, hd, hn, hc, hp =>
    rw [hn] at hd
    unfold ft_p at hp
    dsimp only at hp
    split at hp
    · cases hp
      exact sm_pure (fun p l en R s m args below meth c H locs Z ls C hl hA hS kk => lv_iconst C.1 C.2.1 hd (ft_k32 _) (kk ls hl)) k
    · cases hp
      exact sm_pure (fun p l en R s m args below meth c H locs Z ls C hl hA hS kk => lv_iconst C.1 C.2.1 hd rfl (kk ls hl)) k
  | .bipush _, hd, hn, hc, hp =>
    rw [hn] at hd
    unfold ft_p at hp
    dsimp only at hp
    split at hp
    · split at hp
      · rename_i e
        cases hp
        exact sm_pure (fun p l en R s m args below meth c H locs Z ls C hl hA hS kk => lv_bipush C.1 C.2.1 hd (ft_k8 _ e) (kk ls hl)) k
      · cases hp
    · cases hp
      exact sm_pure (fun p l en R s m args below meth c H locs Z ls C hl hA hS kk => lv_bipush C.1 C.2.1 hd rfl (kk ls hl)) k
  | .sipush _, hd, hn, hc, hp =>
    rw [hn] at hd
    unfold ft_p at hp
    dsimp only at hp
    split at hp
    · split at hp
      · rename_i e
        cases hp
        exact sm_pure (fun p l en R s m args below meth c H locs Z ls C hl hA hS kk => lv_sipush C.1 C.2.1 hd (ft_k16 _ e) (kk ls hl)) k
      · cases hp
    · cases hp
      exact sm_pure (fun p l en R s m args below meth c H locs Z ls C hl hA hS kk => lv_sipush C.1 C.2.1 hd rfl (kk ls hl)) k
  | .ldc _, hd, hn, hc, hp =>
    rw [hn] at hd
    unfold ft_p at hp
    dsimp only at hp
    split at hp
    · cases hp
      exact sm_pure (fun p l en R s m args below meth c H locs Z ls C hl hA hS kk => lv_ldc C.1 C.2.1 C.2.2.2.1 (C.2.2.2.2.1 _ hc) hd (kk ls hl)) k
    · cases hp
  | .ldc_w _, hd, hn, hc, hp =>
    rw [hn] at hd
    unfold ft_p at hp
    dsimp only at hp
    split at hp
    · cases hp
      exact sm_pure (fun p l en R s m args below meth c H locs Z ls C hl hA hS kk => lv_ldcw C.1 C.2.1 C.2.2.2.1 (C.2.2.2.2.1 _ hc) hd (kk ls hl)) k
    · cases hp
  | .ldc2_w _, hd, hn, hc, hp =>
    rw [hn] at hd
    unfold ft_p at hp
    dsimp only at hp
    split at hp
    · cases hp
      exact sm_pure (fun p l en R s m args below meth c H locs Z ls C hl hA hS kk => lv_ldc2 C.1 C.2.1 C.2.2.2.1 (C.2.2.2.2.1 _ hc) hd (kk ls hl)) k
    · cases hp
  | .iload _, hd, hn, hc, hp =>
    rw [hn] at hd
    unfold ft_p at hp
    dsimp only at hp
    split at hp
    · rename_i e
      cases hp
      exact sm_pure (fun p l en R s m args below meth c H locs Z ls C hl hA hS kk => lv_iload C.1 C.2.1 hd (ft_lv hl e) (kk ls hl)) k
    · cases hp
  | .iload_n _, hd, hn, hc, hp =>
    rw [hn] at hd
    unfold ft_p at hp
    dsimp only at hp
    split at hp
    · rename_i e
      cases hp
      exact sm_pure (fun p l en R s m args below meth c H locs Z ls C hl hA hS kk => lv_iload_n C.1 C.2.1 hd rfl (ft_lv hl e) (kk ls hl)) k
    · cases hp
  | .lload _, hd, hn, hc, hp =>
    rw [hn] at hd
    unfold ft_p at hp
    dsimp only at hp
    split at hp
    · rename_i e
      cases hp
      exact sm_pure (fun p l en R s m args below meth c H locs Z ls C hl hA hS kk => lv_lload C.1 C.2.1 hd (ft_lv hl e) (kk ls hl)) k
    · cases hp
  | .lload_n _, hd, hn, hc, hp =>
    rw [hn] at hd
    unfold ft_p at hp
    dsimp only at hp
    split at hp
    · rename_i e
      cases hp
      exact sm_pure (fun p l en R s m args below meth c H locs Z ls C hl hA hS kk => lv_lload_n C.1 C.2.1 hd rfl (ft_lv hl e) (kk ls hl)) k
    · cases hp
  | .aload _, hd, hn, hc, hp =>
    rw [hn] at hd
    unfold ft_p at hp
    dsimp only at hp
    split at hp
    · rename_i e
      cases hp
      exact sm_pure (fun p l en R s m args below meth c H locs Z ls C hl hA hS kk => lv_aload C.1 C.2.1 hd (ft_lv hl e) (kk ls hl)) k
    · rename_i e
      cases hp
      exact sm_pure (fun p l en R s m args below meth c H locs Z ls C hl hA hS kk => lv_aloadN C.1 C.2.1 hd (ft_lv hl e) (kk ls hl)) k
    · cases hp
  | .aload_n _, hd, hn, hc, hp =>
    rw [hn] at hd
    unfold ft_p at hp
    dsimp only at hp
    split at hp
    · rename_i e
      cases hp
      exact sm_pure (fun p l en R s m args below meth c H locs Z ls C hl hA hS kk => lv_aload_n C.1 C.2.1 hd rfl (ft_lv hl e) (kk ls hl)) k
    · rename_i e
      cases hp
      exact sm_pure (fun p l en R s m args below meth c H locs Z ls C hl hA hS kk => lv_aload_nN C.1 C.2.1 hd rfl (ft_lv hl e) (kk ls hl)) k
    · cases hp
  | .istore _, hd, hn, hc, hp =>
    rw [hn] at hd
    unfold ft_p at hp
    dsimp only at hp
    split at hp
    · split at hp
      · rename_i e
        cases hp
        exact sm_pure (fun p l en R s m args below meth c H locs Z ls C hl hA hS kk => lv_istore C.1 C.2.1 hd hl e rfl kk) k
      · cases hp
    · cases hp
  | .istore_n _, hd, hn, hc, hp =>
    rw [hn] at hd
    unfold ft_p at hp
    dsimp only at hp
    split at hp
    · split at hp
      · rename_i e
        cases hp
        exact sm_pure (fun p l en R s m args below meth c H locs Z ls C hl hA hS kk => lv_istore_n C.1 C.2.1 hd rfl hl e rfl kk) k
      · cases hp
    · cases hp
  | .lstore _, hd, hn, hc, hp =>
    rw [hn] at hd
    unfold ft_p at hp
    dsimp only at hp
    split at hp
    · split at hp
      · rename_i e
        cases hp
        exact sm_pure (fun p l en R s m args below meth c H locs Z ls C hl hA hS kk => lv_lstore C.1 C.2.1 hd hl e rfl kk) k
      · cases hp
    · cases hp
  | .lstore_n _, hd, hn, hc, hp =>
    rw [hn] at hd
    unfold ft_p at hp
    dsimp only at hp
    split at hp
    · split at hp
      · rename_i e
        cases hp
        exact sm_pure (fun p l en R s m args below meth c H locs Z ls C hl hA hS kk => lv_lstore_n C.1 C.2.1 hd rfl hl e rfl kk) k
      · cases hp
    · cases hp
  | .astore _, hd, hn, hc, hp =>
    rw [hn] at hd
    unfold ft_p at hp
    dsimp only at hp
    split at hp
    · split at hp
      · rename_i e
        cases hp
        exact sm_pure (fun p l en R s m args below meth c H locs Z ls C hl hA hS kk => lv_astore C.1 C.2.1 hd hl e rfl kk) k
      · cases hp
    · split at hp
      · rename_i e
        cases hp
        exact sm_pure (fun p l en R s m args below meth c H locs Z ls C hl hA hS kk => lv_astoreN C.1 C.2.1 hd hl e rfl kk) k
      · cases hp
    · cases hp
  | .astore_n _, hd, hn, hc, hp =>
    rw [hn] at hd
    unfold ft_p at hp
    dsimp only at hp
    split at hp
    · split at hp
      · rename_i e
        cases hp
        exact sm_pure (fun p l en R s m args below meth c H locs Z ls C hl hA hS kk => lv_astore_n C.1 C.2.1 hd rfl hl e rfl kk) k
      · cases hp
    · split at hp
      · rename_i e
        cases hp
        exact sm_pure (fun p l en R s m args below meth c H locs Z ls C hl hA hS kk => lv_astore_nN C.1 C.2.1 hd rfl hl e rfl kk) k
      · cases hp
    · cases hp
  | .iinc _ _, hd, hn, hc, hp =>
    rw [hn] at hd
    unfold ft_p at hp
    dsimp only at hp
    split at hp
    · rename_i e0
      split at hp
      · rename_i e
        split at hp <;> cases hp
        obtain ⟨j, hj⟩ := List.getElem?_of_mem (ft_lk_mem e0)
        exact sm_pure (fun p l en R s m args below meth c H locs Z ls C hl hA hS kk => lv_iinc C.1 C.2.1 hd hl (k := j) hj (by rw [ft_k32]) e rfl kk) k
        obtain ⟨j, hj⟩ := List.getElem?_of_mem (ft_lk_mem e0)
        exact sm_pure (fun p l en R s m args below meth c H locs Z ls C hl hA hS kk => lv_iinc C.1 C.2.1 hd hl (k := j) hj rfl e rfl kk) k
      · cases hp
    · cases hp
  | .iadd, hd, hn, hc, hp =>
    rw [hn] at hd
    unfold ft_p at hp
    dsimp only at hp
    split at hp
    · cases hp
      exact sm_pure (fun p l en R s m args below meth c H locs Z ls C hl hA hS kk => lv_iadd C.1 C.2.1 hd (kk ls hl)) k
    · cases hp
  | .isub, hd, hn, hc, hp =>
    rw [hn] at hd
    unfold ft_p at hp
    dsimp only at hp
    split at hp
    · cases hp
      exact sm_pure (fun p l en R s m args below meth c H locs Z ls C hl hA hS kk => lv_isub C.1 C.2.1 hd (kk ls hl)) k
    · cases hp
  | .imul, hd, hn, hc, hp =>
    rw [hn] at hd
    unfold ft_p at hp
    dsimp only at hp
    split at hp
    · cases hp
      exact sm_pure (fun p l en R s m args below meth c H locs Z ls C hl hA hS kk => lv_imul C.1 C.2.1 hd (kk ls hl)) k
    · cases hp
  | .iand, hd, hn, hc, hp =>
    rw [hn] at hd
    unfold ft_p at hp
    dsimp only at hp
    split at hp
    · cases hp
      exact sm_pure (fun p l en R s m args below meth c H locs Z ls C hl hA hS kk => lv_iand C.1 C.2.1 hd (kk ls hl)) k
    · cases hp
  | .ior, hd, hn, hc, hp =>
    rw [hn] at hd
    unfold ft_p at hp
    dsimp only at hp
    split at hp
    · cases hp
      exact sm_pure (fun p l en R s m args below meth c H locs Z ls C hl hA hS kk => lv_ior C.1 C.2.1 hd (kk ls hl)) k
    · cases hp
  | .ixor, hd, hn, hc, hp =>
    rw [hn] at hd
    unfold ft_p at hp
    dsimp only at hp
    split at hp
    · cases hp
      exact sm_pure (fun p l en R s m args below meth c H locs Z ls C hl hA hS kk => lv_ixor C.1 C.2.1 hd (kk ls hl)) k
    · cases hp
  | .ishl, hd, hn, hc, hp =>
    rw [hn] at hd
    unfold ft_p at hp
    dsimp only at hp
    split at hp
    · cases hp
      exact sm_pure (fun p l en R s m args below meth c H locs Z ls C hl hA hS kk => lv_ishl C.1 C.2.1 hd (kk ls hl)) k
    · cases hp
  | .ishr, hd, hn, hc, hp =>
    rw [hn] at hd
    unfold ft_p at hp
    dsimp only at hp
    split at hp
    · cases hp
      exact sm_pure (fun p l en R s m args below meth c H locs Z ls C hl hA hS kk => lv_ishr C.1 C.2.1 hd (kk ls hl)) k
    · cases hp
  | .ladd, hd, hn, hc, hp =>
    rw [hn] at hd
    unfold ft_p at hp
    dsimp only at hp
    split at hp
    · cases hp
      exact sm_pure (fun p l en R s m args below meth c H locs Z ls C hl hA hS kk => lv_ladd C.1 C.2.1 hd (kk ls hl)) k
    · cases hp
  | .lsub, hd, hn, hc, hp =>
    rw [hn] at hd
    unfold ft_p at hp
    dsimp only at hp
    split at hp
    · cases hp
      exact sm_pure (fun p l en R s m args below meth c H locs Z ls C hl hA hS kk => lv_lsub C.1 C.2.1 hd (kk ls hl)) k
    · cases hp
  | .lmul, hd, hn, hc, hp =>
    rw [hn] at hd
    unfold ft_p at hp
    dsimp only at hp
    split at hp
    · cases hp
      exact sm_pure (fun p l en R s m args below meth c H locs Z ls C hl hA hS kk => lv_lmul C.1 C.2.1 hd (kk ls hl)) k
    · cases hp
  | .land, hd, hn, hc, hp =>
    rw [hn] at hd
    unfold ft_p at hp
    dsimp only at hp
    split at hp
    · cases hp
      exact sm_pure (fun p l en R s m args below meth c H locs Z ls C hl hA hS kk => lv_land C.1 C.2.1 hd (kk ls hl)) k
    · cases hp
  | .lor, hd, hn, hc, hp =>
    rw [hn] at hd
    unfold ft_p at hp
    dsimp only at hp
    split at hp
    · cases hp
      exact sm_pure (fun p l en R s m args below meth c H locs Z ls C hl hA hS kk => lv_lor C.1 C.2.1 hd (kk ls hl)) k
    · cases hp
  | .lxor, hd, hn, hc, hp =>
    rw [hn] at hd
    unfold ft_p at hp
    dsimp only at hp
    split at hp
    · cases hp
      exact sm_pure (fun p l en R s m args below meth c H locs Z ls C hl hA hS kk => lv_lxor C.1 C.2.1 hd (kk ls hl)) k
    · cases hp
  | .idiv, hd, hn, hc, hp =>
    rw [hn] at hd
    unfold ft_p at hp
    dsimp only at hp
    split at hp
    · cases hp
      exact sm_pure (fun p l en R s m args below meth c H locs Z ls C hl hA hS kk => lv_idiv C.1 C.2.1 hd hg.1 (kk ls hl)) k
    · cases hp
  | .irem, hd, hn, hc, hp =>
    rw [hn] at hd
    unfold ft_p at hp
    dsimp only at hp
    split at hp
    · cases hp
      exact sm_pure (fun p l en R s m args below meth c H locs Z ls C hl hA hS kk => lv_irem C.1 C.2.1 hd hg.1 (kk ls hl)) k
    · cases hp
  | .lshl, hd, hn, hc, hp =>
    rw [hn] at hd
    unfold ft_p at hp
    dsimp only at hp
    split at hp
    · cases hp
      exact sm_pure (fun p l en R s m args below meth c H locs Z ls C hl hA hS kk => lv_lshl C.1 C.2.1 hd rfl (kk ls hl)) k
    · cases hp
  | .lshr, hd, hn, hc, hp =>
    rw [hn] at hd
    unfold ft_p at hp
    dsimp only at hp
    split at hp
    · cases hp
      exact sm_pure (fun p l en R s m args below meth c H locs Z ls C hl hA hS kk => lv_lshr C.1 C.2.1 hd rfl (kk ls hl)) k
    · cases hp
  | .i2l, hd, hn, hc, hp =>
    rw [hn] at hd
    unfold ft_p at hp
    dsimp only at hp
    split at hp
    · cases hp
      exact sm_pure (fun p l en R s m args below meth c H locs Z ls C hl hA hS kk => lv_i2l C.1 C.2.1 hd rfl (kk ls hl)) k
    · cases hp
  | .l2i, hd, hn, hc, hp =>
    rw [hn] at hd
    unfold ft_p at hp
    dsimp only at hp
    split at hp
    · cases hp
      exact sm_pure (fun p l en R s m args below meth c H locs Z ls C hl hA hS kk => lv_l2i C.1 C.2.1 hd rfl (kk ls hl)) k
    · cases hp
  | .i2b, hd, hn, hc, hp =>
    rw [hn] at hd
    unfold ft_p at hp
    dsimp only at hp
    split at hp
    · cases hp
      exact sm_pure (fun p l en R s m args below meth c H locs Z ls C hl hA hS kk => lv_i2b C.1 C.2.1 hd rfl (kk ls hl)) k
    · cases hp
  | .lcmp, hd, hn, hc, hp =>
    rw [hn] at hd
    unfold ft_p at hp
    dsimp only at hp
    split at hp
    · cases hp
      exact sm_pure (fun p l en R s m args below meth c H locs Z ls C hl hA hS kk => W.lcmp C.1 C.2.1 hd (kk ls hl)) k
    · cases hp
  | .dup, hd, hn, hc, hp =>
    rw [hn] at hd
    unfold ft_p at hp
    dsimp only at hp
    split at hp
    · split at hp
      · rename_i e
        cases hp
        exact sm_pure (fun p l en R s m args below meth c H locs Z ls C hl hA hS kk => lv_dup C.1 C.2.1 hd e (kk ls hl)) k
      · cases hp
    · cases hp
  | .pop, hd, hn, hc, hp =>
    rw [hn] at hd
    unfold ft_p at hp
    dsimp only at hp
    split at hp
    · split at hp
      · rename_i e
        cases hp
        exact sm_pure (fun p l en R s m args below meth c H locs Z ls C hl hA hS kk => lv_pop C.1 C.2.1 hd e (kk ls hl)) k
      · cases hp
    · cases hp
  | .dup_x1, hd, hn, hc, hp =>
    rw [hn] at hd
    unfold ft_p at hp
    dsimp only at hp
    split at hp
    · split at hp
      · rename_i e
        cases hp
        exact sm_pure (fun p l en R s m args below meth c H locs Z ls C hl hA hS kk => lv_dup_x1 C.1 C.2.1 hd e.1 e.2 (kk ls hl)) k
      · cases hp
    · cases hp
  | .dup_x2, hd, hn, hc, hp =>
    rw [hn] at hd
    unfold ft_p at hp
    dsimp only at hp
    split at hp
    · split at hp
      · rename_i e
        cases hp
        exact sm_pure (fun p l en R s m args below meth c H locs Z ls C hl hA hS kk => lv_dup_x2 C.1 C.2.1 hd e.1 e.2.1 e.2.2 (kk ls hl)) k
      · cases hp
    · cases hp
  | .dup2, hd, hn, hc, hp =>
    rw [hn] at hd
    unfold ft_p at hp
    dsimp only at hp
    split at hp
    · split at hp
      · rename_i e
        cases hp
        exact sm_pure (fun p l en R s m args below meth c H locs Z ls C hl hA hS kk => lv_dup2_11 C.1 C.2.1 hd e.1 e.2 (kk ls hl)) k
      · cases hp
    · cases hp
  | .goto _, hd, hn, hc, hp =>
    rw [hn] at hd
    unfold ft_p at hp
    dsimp only at hp
    split at hp
    · rename_i e
      cases hp
      exact sm_pure (fun p l en R s m args below meth c H locs Z ls C hl hA hS kk => lv_goto C.1 C.2.1 hd (ft_tgt_ok e) (kk ls hl)) k
    · cases hp
  | .ifnull _, hd, hn, hc, hp =>
    rw [hn] at hd
    unfold ft_p at hp
    dsimp only at hp
    split at hp
    · cases hp
      exact sm_pure (fun p l en R s m args below meth c H locs Z ls C hl hA hS kk => lv_ifnull C.1 C.2.1 hd (kk ls hl)) k
    · split at hp
      · rename_i e
        cases hp
        exact sm_pure (fun p l en R s m args below meth c H locs Z ls C hl hA hS kk => lv_ifnullN C.1 C.2.1 hd (ft_tgt_ok e) (kk ls hl)) k
      · cases hp
    · cases hp
  | .ifnonnull _, hd, hn, hc, hp =>
    rw [hn] at hd
    unfold ft_p at hp
    dsimp only at hp
    split at hp
    · split at hp
      · rename_i e
        cases hp
        exact sm_pure (fun p l en R s m args below meth c H locs Z ls C hl hA hS kk => lv_ifnonnull C.1 C.2.1 hd (ft_tgt_ok e) (kk ls hl)) k
      · cases hp
    · cases hp
      exact sm_pure (fun p l en R s m args below meth c H locs Z ls C hl hA hS kk => lv_ifnonnullN C.1 C.2.1 hd (kk ls hl)) k
    · cases hp
  | .aaload, hd, hn, hc, hp => cases hp
  | .aastore, hd, hn, hc, hp => cases hp
  | .anewarray _, hd, hn, hc, hp => cases hp
  | .areturn, hd, hn, hc, hp => cases hp
  | .arraylength, hd, hn, hc, hp => cases hp
  | .athrow, hd, hn, hc, hp => cases hp
  | .baload, hd, hn, hc, hp => cases hp
  | .bastore, hd, hn, hc, hp => cases hp
  | .caload, hd, hn, hc, hp => cases hp
  | .castore, hd, hn, hc, hp => cases hp
  | .checkcast _, hd, hn, hc, hp => cases hp
  | .d2f, hd, hn, hc, hp => cases hp
  | .d2i, hd, hn, hc, hp => cases hp
  | .d2l, hd, hn, hc, hp => cases hp
  | .dadd, hd, hn, hc, hp => cases hp
  | .daload, hd, hn, hc, hp => cases hp
  | .dastore, hd, hn, hc, hp => cases hp
  | .dcmp _, hd, hn, hc, hp => cases hp
  | .dconst _, hd, hn, hc, hp => cases hp
  | .ddiv, hd, hn, hc, hp => cases hp
  | .dload _, hd, hn, hc, hp => cases hp
  | .dload_n _, hd, hn, hc, hp => cases hp
  | .dmul, hd, hn, hc, hp => cases hp
  | .dneg, hd, hn, hc, hp => cases hp
  | .drem, hd, hn, hc, hp => cases hp
  | .dreturn, hd, hn, hc, hp => cases hp
  | .dstore _, hd, hn, hc, hp => cases hp
  | .dstore_n _, hd, hn, hc, hp => cases hp
  | .dsub, hd, hn, hc, hp => cases hp
  | .dup2_x1, hd, hn, hc, hp => cases hp
  | .dup2_x2, hd, hn, hc, hp => cases hp
  | .f2d, hd, hn, hc, hp => cases hp
  | .f2i, hd, hn, hc, hp => cases hp
  | .f2l, hd, hn, hc, hp => cases hp
  | .fadd, hd, hn, hc, hp => cases hp
  | .faload, hd, hn, hc, hp => cases hp
  | .fastore, hd, hn, hc, hp => cases hp
  | .fcmp _, hd, hn, hc, hp => cases hp
  | .fconst _, hd, hn, hc, hp => cases hp
  | .fdiv, hd, hn, hc, hp => cases hp
  | .fload _, hd, hn, hc, hp => cases hp
  | .fload_n _, hd, hn, hc, hp => cases hp
  | .fmul, hd, hn, hc, hp => cases hp
  | .fneg, hd, hn, hc, hp => cases hp
  | .frem, hd, hn, hc, hp => cases hp
  | .freturn, hd, hn, hc, hp => cases hp
  | .fstore _, hd, hn, hc, hp => cases hp
  | .fstore_n _, hd, hn, hc, hp => cases hp
  | .fsub, hd, hn, hc, hp => cases hp
  | .getfield _, hd, hn, hc, hp => cases hp
  | .getstatic _, hd, hn, hc, hp => cases hp
  | .goto_w _, hd, hn, hc, hp => cases hp
  | .i2c, hd, hn, hc, hp => cases hp
  | .i2d, hd, hn, hc, hp => cases hp
  | .i2f, hd, hn, hc, hp => cases hp
  | .i2s, hd, hn, hc, hp => cases hp
  | .iaload, hd, hn, hc, hp => cases hp
  | .iastore, hd, hn, hc, hp => cases hp
  | .if_acmp _ _, hd, hn, hc, hp => cases hp
  | .if_icmp _ _, hd, hn, hc, hp => cases hp
  | .ifCond _ _, hd, hn, hc, hp => cases hp
  | .ineg, hd, hn, hc, hp => cases hp
  | .instanceof _, hd, hn, hc, hp => cases hp
  | .invokedynamic _, hd, hn, hc, hp => cases hp
  | .invokeinterface _ _, hd, hn, hc, hp => cases hp
  | .invokespecial _, hd, hn, hc, hp => cases hp
  | .invokestatic _, hd, hn, hc, hp => cases hp
  | .invokevirtual _, hd, hn, hc, hp => cases hp
  | .ireturn, hd, hn, hc, hp => cases hp
  | .iushr, hd, hn, hc, hp => cases hp
  | .jsr _, hd, hn, hc, hp => cases hp
  | .jsr_w _, hd, hn, hc, hp => cases hp
  | .l2d, hd, hn, hc, hp => cases hp
  | .l2f, hd, hn, hc, hp => cases hp
  | .laload, hd, hn, hc, hp => cases hp
  | .lastore, hd, hn, hc, hp => cases hp
  | .ldiv, hd, hn, hc, hp => cases hp
  | .lneg, hd, hn, hc, hp => cases hp
  | .lookupswitch _ _, hd, hn, hc, hp => cases hp
  | .lrem, hd, hn, hc, hp => cases hp
  | .lreturn, hd, hn, hc, hp => cases hp
  | .lushr, hd, hn, hc, hp => cases hp
  | .monitorenter, hd, hn, hc, hp => cases hp
  | .monitorexit, hd, hn, hc, hp => cases hp
  | .multianewarray _ _, hd, hn, hc, hp => cases hp
  | .new _, hd, hn, hc, hp => cases hp
  | .newarray _, hd, hn, hc, hp => cases hp
  | .nop, hd, hn, hc, hp => cases hp
  | .pop2, hd, hn, hc, hp => cases hp
  | .putfield _, hd, hn, hc, hp => cases hp
  | .putstatic _, hd, hn, hc, hp => cases hp
  | .ret _, hd, hn, hc, hp => cases hp
  | .return_, hd, hn, hc, hp => cases hp
  | .saload, hd, hn, hc, hp => cases hp
  | .sastore, hd, hn, hc, hp => cases hp
  | .swap, hd, hn, hc, hp => cases hp
  | .tableswitch _ _ _ _, hd, hn, hc, hp => cases hp
