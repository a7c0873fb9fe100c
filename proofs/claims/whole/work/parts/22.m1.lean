section M1
variable {D : ft_G} {h : ft_H} {κ : Nat → Nat × Nat} {n : Nat} {E : Nat → Prop} {P : Nat → Nat}
theorem t_M_around {x : Int64} : sm D y_M_around 0 (lv_args 0 [.long x]) [] h 0 0 (fun v h' => (∃ y : Nat, y < 281474976710656 ∧ v = some (.long (lN y))) ∧ h' = h) := by
  obtain ⟨z, hz, rfl⟩ := wb_of x
  refine ft_run_ok k_M_around 3 0 _ _ _ [] rfl trivial ?_
  exact r_ret (v := some (.long _)) k_M_around rfl trivial (Nat.le_refl 0) (Nat.le_refl 0) ⟨⟨z % 2 ^ 48, Nat.mod_lt _ (by decide), congrArg (fun q => some (Value.long q)) (wb_mask (n := z) (k := 48) hz (by decide))⟩, rfl⟩
theorem t_M_in {x lo up : Int64} : sm D y_M_in 0 (lv_args 0 [.long x, .long lo, .long up]) [] h 0 0 (fun v h' => (∃ b : Nat, b ≤ 1 ∧ v = some (.int (nI b)) ∧ (b = 1 ↔ lo ≤ x ∧ x ≤ up)) ∧ h' = h) := by
  refine ft_run_ok k_M_in 3 0 _ _ _ [] rfl trivial ?_
  refine r_if k_M_in rfl rfl (fun c1 => ?_) (fun c1 => ?_)
  · refine ft_run_ok k_M_in 1 _ _ _ _ [] rfl trivial ?_
    exact r_ret (v := some (.int (nI 0))) k_M_in rfl rfl (Nat.le_refl 0) (Nat.le_refl 0) ⟨⟨0, by omega, rfl, ⟨fun z => by omega, fun z => absurd ((lg_cmp_gt _ _).mp c1) (Int64.not_lt.mpr z.1)⟩⟩, rfl⟩
  · refine ft_run_ok k_M_in 3 _ _ _ _ [] rfl trivial ?_
    refine r_if k_M_in rfl rfl (fun c2 => ?_) (fun c2 => ?_)
    · refine ft_run_ok k_M_in 1 _ _ _ _ [] rfl trivial ?_
      exact r_ret (v := some (.int (nI 0))) k_M_in rfl rfl (Nat.le_refl 0) (Nat.le_refl 0) ⟨⟨0, by omega, rfl, ⟨fun z => by omega, fun z => absurd ((lg_cmp_gt _ _).mp c2) (Int64.not_lt.mpr z.2)⟩⟩, rfl⟩
    · refine ft_run_ok k_M_in 2 _ _ _ _ [] rfl trivial ?_
      exact r_ret (v := some (.int (nI 1))) k_M_in rfl rfl (Nat.le_refl 0) (Nat.le_refl 0) ⟨⟨1, by omega, rfl, ⟨fun _ => ⟨Int64.not_lt.mp (fun z => c1 ((lg_cmp_gt _ _).mpr z)), Int64.not_lt.mp (fun z => c2 ((lg_cmp_gt _ _).mpr z))⟩, fun _ => rfl⟩⟩, rfl⟩
set_option maxRecDepth 100000 in
theorem t_M_after {a : Int64} {b : Int64}  : sm D y_M_after 0 (lv_args 0 [.long a, .long b]) [] h 0 0 (fun v h' => (∃ b : Nat, b ≤ 1 ∧ v = some (.int (nI b))) ∧ h' = h) := by
  refine ft_run_ok k_M_after 3 _ _ _ _ [] rfl trivial ?_
  refine r_callS (as := [.long ((a) - (b))]) (r := []) k_M_after rfl z_M_around rfl (Nat.le_of_ble_eq_true rfl) (Nat.le_of_ble_eq_true rfl) (Nat.le_of_ble_eq_true rfl) (Nat.le_of_ble_eq_true rfl) (t_M_around) ?_
  rintro v h' ⟨⟨n1, b2, rfl⟩, rfl⟩
  refine ft_run_ok k_M_after 2 _ _ _ _ [] rfl trivial ?_
  refine r_callS (as := [.long (lN n1), .long (lN 1), .long (lN 140737488355327)]) (r := []) k_M_after rfl z_M_in rfl (Nat.le_of_ble_eq_true rfl) (Nat.le_of_ble_eq_true rfl) (Nat.le_of_ble_eq_true rfl) (Nat.le_of_ble_eq_true rfl) (t_M_in) ?_
  rintro v h' ⟨⟨n3, b4, rfl, m5⟩, rfl⟩
  exact r_ret (v := some (.int (nI n3))) k_M_after rfl (ft_nb (by omega)) (Nat.le_of_ble_eq_true rfl) (Nat.le_of_ble_eq_true rfl) ⟨⟨n3, by omega, rfl⟩, rfl⟩
set_option maxRecDepth 100000 in
theorem t_M_before {a : Int64} {b : Int64}  : sm D y_M_before 0 (lv_args 0 [.long a, .long b]) [] h 0 0 (fun v h' => (∃ b : Nat, b ≤ 1 ∧ v = some (.int (nI b))) ∧ h' = h) := by
  refine ft_run_ok k_M_before 2 _ _ _ _ [] rfl trivial ?_
  refine r_callS (as := [.long (b), .long (a)]) (r := []) k_M_before rfl z_M_after rfl (Nat.le_of_ble_eq_true rfl) (Nat.le_of_ble_eq_true rfl) (Nat.le_of_ble_eq_true rfl) (Nat.le_of_ble_eq_true rfl) (t_M_after) ?_
  rintro v h' ⟨⟨n1, b2, rfl⟩, rfl⟩
  exact r_ret (v := some (.int (nI n1))) k_M_before rfl (ft_nb (by omega)) (Nat.le_of_ble_eq_true rfl) (Nat.le_of_ble_eq_true rfl) ⟨⟨n1, by omega, rfl⟩, rfl⟩
theorem t_M_at {e : Nat} {x_e : Int32} {x : Int64} (q_e : x_e = nI e) (h_e : e < 2) : sm D y_M_at 0 (lv_args 0 [.int x_e, .long x]) [] h 0 0 (fun v h' => (∃ j : Nat, j < 512 ∧ v = some (.int (nI j))) ∧ h' = h) := by
  subst q_e
  refine ft_run_ok k_M_at 8 0 _ _ _ [] rfl trivial ?_
  obtain ⟨j, hj, ej⟩ := ft_and255 x
  exact r_ret (v := some (.int _)) k_M_at rfl trivial (Nat.le_refl 0) (Nat.le_refl 0) ⟨⟨256 * e + j, by omega, by rw [ej]; simp only [nI_add, pk_mul]⟩, rfl⟩
set_option maxRecDepth 100000 in
theorem t_M_feat {e : Nat} {x_e : Int32} {w : Nat} {x_w : Int32} {f : Nat} {x_f : Int32} (q_e : x_e = nI e) (h_e : e < 2) (q_w : x_w = nI w) (h_w : w < 2) (q_f : x_f = nI f) (h_f : f < 5) : sm D y_M_feat 0 (lv_args 0 [.int x_e, .int x_w, .int x_f]) [] h 0 0 (fun v h' => (∃ j : Nat, j < 20 ∧ v = some (.int (nI j))) ∧ h' = h) := by
  subst q_e
  subst q_w
  subst q_f
  refine ft_run_ok k_M_feat 9 _ _ _ _ [] rfl trivial ?_
  exact r_ret (v := some (.int ((((nI 10) * (nI e)) + ((nI 5) * (nI w))) + (nI f)))) k_M_feat rfl trivial (Nat.le_of_ble_eq_true rfl) (Nat.le_of_ble_eq_true rfl) ⟨⟨(((10) * (e)) + ((5) * (w))) + (f), by omega, (by simp only [nI_add, pk_mul])⟩, rfl⟩
theorem t_M_hasAck {k : Nat} {x_k : Int32} (q_k : x_k = nI k) (h_k : k < 256) : sm D y_M_hasAck 0 (lv_args 0 [.int x_k]) [] h 0 0 (fun v h' => (∃ b : Nat, b ≤ 1 ∧ v = some (.int (nI b)) ∧ (b = 1 ↔ k ≠ 0 ∧ k ≠ 2)) ∧ h' = h) := by
  subst q_k
  refine ft_run_ok k_M_hasAck 1 _ _ _ _ [] rfl trivial ?_
  refine r_if k_M_hasAck rfl rfl (fun c1 => ?_) (fun c1 => ?_)
  · have g1 := ft_eq0 (a := k) (by omega) c1
    refine ft_run_ok k_M_hasAck 1 _ _ _ _ [] rfl trivial ?_
    exact r_ret (v := some (.int (nI 0))) k_M_hasAck rfl rfl (Nat.le_of_ble_eq_true rfl) (Nat.le_of_ble_eq_true rfl) ⟨⟨0, by omega, rfl, by omega⟩, rfl⟩
  · have g1 := ft_ne0 (a := k) c1
    refine ft_run_ok k_M_hasAck 2 _ _ _ _ [] rfl trivial ?_
    refine r_icmp k_M_hasAck rfl rfl (fun c2 => ?_) (fun c2 => ?_)
    · have g2 := ft_eq (a := k) (b := 2) (by omega) (by omega) c2
      refine ft_run_ok k_M_hasAck 1 _ _ _ _ [] rfl trivial ?_
      exact r_ret (v := some (.int (nI 0))) k_M_hasAck rfl rfl (Nat.le_of_ble_eq_true rfl) (Nat.le_of_ble_eq_true rfl) ⟨⟨0, by omega, rfl, by omega⟩, rfl⟩
    · have g2 := ft_neq (a := k) (b := 2) (by omega) (by omega) c2
      refine ft_run_ok k_M_hasAck 2 _ _ _ _ [] rfl trivial ?_
      exact r_ret (v := some (.int (nI 1))) k_M_hasAck rfl rfl (Nat.le_of_ble_eq_true rfl) (Nat.le_of_ble_eq_true rfl) ⟨⟨1, by omega, rfl, by omega⟩, rfl⟩
set_option maxRecDepth 100000 in
theorem t_M_become {o : Nat} {e : Nat} {x_e : Int32} {s : Int32} (I : Iv D κ n E P h) (ho : κ o = (kd_M, 0)) (hE : ¬ E o) (q_e : x_e = nI e) (h_e : e < 2) : sm D y_M_become 0 (lv_args 0 [.ref o, .int x_e, .int s]) [] h 0 0 (fun v h' => (v = none) ∧ Iv D κ n E P h') := by
  subst q_e
  obtain ⟨a2, r1, k3, e4⟩ := I.get ho hE (9)
  have k3 : κ a2 = (35, 2) := k3
  have I5 := I.set (k := (nI e).toNatClampNeg) (v := .int (s)) k3 ⟨_, rfl⟩
  obtain ⟨a7, r6, k8, e9⟩ := I5.get ho hE (41)
  have k8 : κ a7 = (67, 2) := k8
  have r10 := I5.get ho hE (1)
  have I11 := I5.set (k := (nI e).toNatClampNeg) (v := .int (nI (P 1))) k8 ⟨_, rfl⟩
  obtain ⟨a13, r12, k14, e15⟩ := I11.get ho hE (42)
  have k14 : κ a13 = (68, 2) := k14
  have I16 := I11.set (k := (nI e).toNatClampNeg) (v := .int (nI 1)) k14 ⟨_, rfl⟩
  obtain ⟨a18, r17, k19, e20⟩ := I16.get ho hE (43)
  have k19 : κ a18 = (69, 2) := k19
  have r21 := I16.get ho hE (1)
  have I22 := I16.set (k := (nI e).toNatClampNeg) (v := .int (nI (P 1))) k19 ⟨_, rfl⟩
  refine ft_run_ok k_M_become 22 _ _ _ _ [.ref a2, .ref a7, .int (nI (P 1)), .ref a13, .ref a18, .int (nI (P 1))] rfl ⟨I.K ho, r1, I.Kd k3 rfl, I.B k3, I.vi k3 (by omega) (by decide), I5.K ho, r6, I5.K ho, r10, I5.Kd k8 rfl, I5.B k8, I5.vi k8 (by omega) (by decide), I11.K ho, r12, I11.Kd k14 rfl, I11.B k14, I11.vi k14 (by omega) (by decide), I16.K ho, r17, I16.K ho, r21, I16.Kd k19 rfl, I16.B k19, I16.vi k19 (by omega) (by decide), trivial⟩ ?_
  exact r_ret (v := none) k_M_become rfl trivial (Nat.le_of_ble_eq_true rfl) (Nat.le_of_ble_eq_true rfl) ⟨rfl, I22⟩
set_option maxRecDepth 100000 in
theorem t_M_isOwn {o : Nat} {e : Nat} {x_e : Int32} {x : Int64} (I : Iv D κ n E P h) (ho : κ o = (kd_M, 0)) (hE : ¬ E o) (q_e : x_e = nI e) (h_e : e < 2) : sm D y_M_isOwn 0 (lv_args 0 [.ref o, .int x_e, .long x]) [] h 0 0 (fun v h' => (∃ b : Nat, b ≤ 1 ∧ v = some (.int (nI b))) ∧ h' = h) := by
  subst q_e
  obtain ⟨a2, r1, k3, e4⟩ := I.get ho hE (10)
  have k3 : κ a2 = (36, 2) := k3
  obtain ⟨x6, r5⟩ := I.get k3 e4 ((nI e).toNatClampNeg)
  refine ft_run_ok k_M_isOwn 6 _ _ _ _ [.ref a2, .long (x6)] rfl ⟨I.K ho, r1, I.Kd k3 rfl, I.vi k3 (by omega) (by decide), r5, trivial⟩ ?_
  refine r_callS (as := [.long ((x6) - (x))]) (r := []) k_M_isOwn rfl z_M_around rfl (Nat.le_of_ble_eq_true rfl) (Nat.le_of_ble_eq_true rfl) (Nat.le_of_ble_eq_true rfl) (Nat.le_of_ble_eq_true rfl) (t_M_around) ?_
  rintro v h' ⟨⟨n7, b8, rfl⟩, rfl⟩
  refine ft_run_ok k_M_isOwn 4 _ _ _ _ [] rfl trivial ?_
  refine r_callS (as := [.long (lN n7), .long (lN 1), .long (lN 255)]) (r := []) k_M_isOwn rfl z_M_in rfl (Nat.le_of_ble_eq_true rfl) (Nat.le_of_ble_eq_true rfl) (Nat.le_of_ble_eq_true rfl) (Nat.le_of_ble_eq_true rfl) (t_M_in) ?_
  rintro v h' ⟨⟨n9, b10, rfl, m11⟩, rfl⟩
  refine r_if k_M_isOwn rfl rfl (fun c12 => ?_) (fun c12 => ?_)
  · have g13 := ft_eq0 (a := n9) (by omega) c12
    refine ft_run_ok k_M_isOwn 1 _ _ _ _ [] rfl trivial ?_
    exact r_ret (v := some (.int (nI 0))) k_M_isOwn rfl rfl (Nat.le_of_ble_eq_true rfl) (Nat.le_of_ble_eq_true rfl) ⟨⟨0, by omega, rfl⟩, rfl⟩
  · have g14 := ft_ne0 (a := n9) c12
    obtain ⟨a16, r15, k17, e18⟩ := I.get ho hE (11)
    have k17 : κ a16 = (37, 2) := k17
    obtain ⟨x20, r19⟩ := I.get k17 e18 ((nI e).toNatClampNeg)
    refine ft_run_ok k_M_isOwn 5 _ _ _ _ [.ref a16, .long (x20)] rfl ⟨I.K ho, r15, I.Kd k17 rfl, I.vi k17 (by omega) (by decide), r19, trivial⟩ ?_
    refine r_callS (as := [.long (x), .long (x20)]) (r := []) k_M_isOwn rfl z_M_before rfl (Nat.le_of_ble_eq_true rfl) (Nat.le_of_ble_eq_true rfl) (Nat.le_of_ble_eq_true rfl) (Nat.le_of_ble_eq_true rfl) (t_M_before) ?_
    rintro v h' ⟨⟨n21, b22, rfl⟩, rfl⟩
    refine r_if k_M_isOwn rfl rfl (fun c23 => ?_) (fun c23 => ?_)
    · have g24 := ft_ne0 (a := n21) c23
      refine ft_run_ok k_M_isOwn 1 _ _ _ _ [] rfl trivial ?_
      exact r_ret (v := some (.int (nI 0))) k_M_isOwn rfl rfl (Nat.le_of_ble_eq_true rfl) (Nat.le_of_ble_eq_true rfl) ⟨⟨0, by omega, rfl⟩, rfl⟩
    · have g25 := ft_eq0 (a := n21) (by omega) (Classical.not_not.mp c23)
      refine ft_run_ok k_M_isOwn 2 _ _ _ _ [] rfl trivial ?_
      exact r_ret (v := some (.int (nI 1))) k_M_isOwn rfl rfl (Nat.le_of_ble_eq_true rfl) (Nat.le_of_ble_eq_true rfl) ⟨⟨1, by omega, rfl⟩, rfl⟩
set_option maxRecDepth 100000 in
theorem t_M_inRow {o : Nat} {e : Nat} {x_e : Int32} {x : Int64} (I : Iv D κ n E P h) (ho : κ o = (kd_M, 0)) (hE : ¬ E o) (q_e : x_e = nI e) (h_e : e < 2) : sm D y_M_inRow 0 (lv_args 0 [.ref o, .int x_e, .long x]) [] h 0 0 (fun v h' => (∃ b : Nat, b ≤ 1 ∧ v = some (.int (nI b))) ∧ h' = h) := by
  subst q_e
  obtain ⟨a2, r1, k3, e4⟩ := I.get ho hE (12)
  have k3 : κ a2 = (38, 2) := k3
  obtain ⟨x6, r5⟩ := I.get k3 e4 ((nI e).toNatClampNeg)
  refine ft_run_ok k_M_inRow 4 _ _ _ _ [.ref a2, .int (x6)] rfl ⟨I.K ho, r1, I.Kd k3 rfl, I.vi k3 (by omega) (by decide), r5, trivial⟩ ?_
  refine r_if k_M_inRow rfl rfl (fun c7 => ?_) (fun c7 => ?_)
  · refine ft_run_ok k_M_inRow 1 _ _ _ _ [] rfl trivial ?_
    exact r_ret (v := some (.int (nI 0))) k_M_inRow rfl rfl (Nat.le_of_ble_eq_true rfl) (Nat.le_of_ble_eq_true rfl) ⟨⟨0, by omega, rfl⟩, rfl⟩
  · obtain ⟨a11, r10, k12, e13⟩ := I.get ho hE (14)
    have k12 : κ a11 = (40, 2) := k12
    obtain ⟨x15, r14⟩ := I.get k12 e13 ((nI e).toNatClampNeg)
    refine ft_run_ok k_M_inRow 5 _ _ _ _ [.ref a11, .long (x15)] rfl ⟨I.K ho, r10, I.Kd k12 rfl, I.vi k12 (by omega) (by decide), r14, trivial⟩ ?_
    refine r_callS (as := [.long (x), .long (x15)]) (r := []) k_M_inRow rfl z_M_before rfl (Nat.le_of_ble_eq_true rfl) (Nat.le_of_ble_eq_true rfl) (Nat.le_of_ble_eq_true rfl) (Nat.le_of_ble_eq_true rfl) (t_M_before) ?_
    rintro v h' ⟨⟨n16, b17, rfl⟩, rfl⟩
    refine r_if k_M_inRow rfl rfl (fun c18 => ?_) (fun c18 => ?_)
    · have g19 := ft_ne0 (a := n16) c18
      refine ft_run_ok k_M_inRow 1 _ _ _ _ [] rfl trivial ?_
      exact r_ret (v := some (.int (nI 0))) k_M_inRow rfl rfl (Nat.le_of_ble_eq_true rfl) (Nat.le_of_ble_eq_true rfl) ⟨⟨0, by omega, rfl⟩, rfl⟩
    · have g20 := ft_eq0 (a := n16) (by omega) (Classical.not_not.mp c18)
      obtain ⟨a22, r21, k23, e24⟩ := I.get ho hE (15)
      have k23 : κ a22 = (41, 2) := k23
      obtain ⟨x26, r25⟩ := I.get k23 e24 ((nI e).toNatClampNeg)
      refine ft_run_ok k_M_inRow 5 _ _ _ _ [.ref a22, .long (x26)] rfl ⟨I.K ho, r21, I.Kd k23 rfl, I.vi k23 (by omega) (by decide), r25, trivial⟩ ?_
      refine r_callS (as := [.long (x), .long (x26)]) (r := []) k_M_inRow rfl z_M_before rfl (Nat.le_of_ble_eq_true rfl) (Nat.le_of_ble_eq_true rfl) (Nat.le_of_ble_eq_true rfl) (Nat.le_of_ble_eq_true rfl) (t_M_before) ?_
      rintro v h' ⟨⟨n27, b28, rfl⟩, rfl⟩
      refine r_if k_M_inRow rfl rfl (fun c29 => ?_) (fun c29 => ?_)
      · have g30 := ft_ne0 (a := n27) c29
        refine ft_run_ok k_M_inRow 1 _ _ _ _ [] rfl trivial ?_
        exact r_ret (v := some (.int (nI 0))) k_M_inRow rfl rfl (Nat.le_of_ble_eq_true rfl) (Nat.le_of_ble_eq_true rfl) ⟨⟨0, by omega, rfl⟩, rfl⟩
      · have g31 := ft_eq0 (a := n27) (by omega) (Classical.not_not.mp c29)
        obtain ⟨a33, r32, k34, e35⟩ := I.get ho hE (13)
        have k34 : κ a33 = (39, 2) := k34
        obtain ⟨n37, b38, r36⟩ := I.get k34 e35 ((nI e).toNatClampNeg)
        refine ft_run_ok k_M_inRow 6 _ _ _ _ [.ref a33, .long (lN n37)] rfl ⟨I.K ho, r32, I.Kd k34 rfl, I.vi k34 (by omega) (by decide), r36, trivial⟩ ?_
        refine r_callS (as := [.long ((lN n37) - (x))]) (r := []) k_M_inRow rfl z_M_around rfl (Nat.le_of_ble_eq_true rfl) (Nat.le_of_ble_eq_true rfl) (Nat.le_of_ble_eq_true rfl) (Nat.le_of_ble_eq_true rfl) (t_M_around) ?_
        rintro v h' ⟨⟨n39, b40, rfl⟩, rfl⟩
        refine ft_run_ok k_M_inRow 2 _ _ _ _ [] rfl trivial ?_
        refine r_if k_M_inRow rfl rfl (fun c41 => ?_) (fun c41 => ?_)
        · refine ft_run_ok k_M_inRow 1 _ _ _ _ [] rfl trivial ?_
          exact r_ret (v := some (.int (nI 0))) k_M_inRow rfl rfl (Nat.le_of_ble_eq_true rfl) (Nat.le_of_ble_eq_true rfl) ⟨⟨0, by omega, rfl⟩, rfl⟩
        · refine ft_run_ok k_M_inRow 2 _ _ _ _ [] rfl trivial ?_
          exact r_ret (v := some (.int (nI 1))) k_M_inRow rfl rfl (Nat.le_of_ble_eq_true rfl) (Nat.le_of_ble_eq_true rfl) ⟨⟨1, by omega, rfl⟩, rfl⟩
set_option maxRecDepth 100000 in
theorem t_M_fitsAck {o : Nat} {e : Nat} {x_e : Int32} {x : Int64} (I : Iv D κ n E P h) (ho : κ o = (kd_M, 0)) (hE : ¬ E o) (q_e : x_e = nI e) (h_e : e < 2) : sm D y_M_fitsAck 0 (lv_args 0 [.ref o, .int x_e, .long x]) [] h 0 0 (fun v h' => (∃ b : Nat, b ≤ 1 ∧ v = some (.int (nI b))) ∧ h' = h) := by
  subst q_e
  obtain ⟨a2, r1, k3, e4⟩ := I.get ho hE (11)
  have k3 : κ a2 = (37, 2) := k3
  obtain ⟨x6, r5⟩ := I.get k3 e4 ((nI e).toNatClampNeg)
  refine ft_run_ok k_M_fitsAck 5 _ _ _ _ [.ref a2, .long (x6)] rfl ⟨I.K ho, r1, I.Kd k3 rfl, I.vi k3 (by omega) (by decide), r5, trivial⟩ ?_
  refine r_callS (as := [.long (x), .long (x6)]) (r := []) k_M_fitsAck rfl z_M_before rfl (Nat.le_of_ble_eq_true rfl) (Nat.le_of_ble_eq_true rfl) (Nat.le_of_ble_eq_true rfl) (Nat.le_of_ble_eq_true rfl) (t_M_before) ?_
  rintro v h' ⟨⟨n7, b8, rfl⟩, rfl⟩
  refine r_if k_M_fitsAck rfl rfl (fun c9 => ?_) (fun c9 => ?_)
  · have g10 := ft_ne0 (a := n7) c9
    refine ft_run_ok k_M_fitsAck 1 _ _ _ _ [] rfl trivial ?_
    exact r_ret (v := some (.int (nI 0))) k_M_fitsAck rfl rfl (Nat.le_of_ble_eq_true rfl) (Nat.le_of_ble_eq_true rfl) ⟨⟨0, by omega, rfl⟩, rfl⟩
  · have g11 := ft_eq0 (a := n7) (by omega) (Classical.not_not.mp c9)
    obtain ⟨a13, r12, k14, e15⟩ := I.get ho hE (10)
    have k14 : κ a13 = (36, 2) := k14
    obtain ⟨x17, r16⟩ := I.get k14 e15 ((nI e).toNatClampNeg)
    refine ft_run_ok k_M_fitsAck 8 _ _ _ _ [.ref a13, .long (x17)] rfl ⟨I.K ho, r12, I.Kd k14 rfl, I.vi k14 (by omega) (by decide), r16, trivial⟩ ?_
    refine r_callS (as := [.long (((x17) - (lN 1)) - (x))]) (r := []) k_M_fitsAck rfl z_M_around rfl (Nat.le_of_ble_eq_true rfl) (Nat.le_of_ble_eq_true rfl) (Nat.le_of_ble_eq_true rfl) (Nat.le_of_ble_eq_true rfl) (t_M_around) ?_
    rintro v h' ⟨⟨n18, b19, rfl⟩, rfl⟩
    obtain ⟨a21, r20, k22, e23⟩ := I.get ho hE (20)
    have k22 : κ a21 = (46, 20) := k22
    refine ft_run_ok k_M_fitsAck 5 _ _ _ _ [.ref a21] rfl ⟨I.K ho, r20, trivial⟩ ?_
    refine r_callS (as := [.int (nI e), .int (nI 0), .int (nI 1)]) (r := [.ref a21, .long (lN n18)]) k_M_fitsAck rfl z_M_feat rfl (Nat.le_of_ble_eq_true rfl) (Nat.le_of_ble_eq_true rfl) (Nat.le_of_ble_eq_true rfl) (Nat.le_of_ble_eq_true rfl) (t_M_feat (e := e) rfl (by omega) (w := 0) rfl (by omega) (f := 1) rfl (by omega)) ?_
    rintro v h' ⟨⟨n24, b25, rfl⟩, rfl⟩
    obtain ⟨x27, r26⟩ := I.get k22 e23 ((nI n24).toNatClampNeg)
    refine ft_run_ok k_M_fitsAck 3 _ _ _ _ [.int (x27)] rfl ⟨I.Kd k22 rfl, I.vi k22 (by omega) (by decide), r26, trivial⟩ ?_
    refine r_if k_M_fitsAck rfl rfl (fun c28 => ?_) (fun c28 => ?_)
    · refine ft_run_ok k_M_fitsAck 1 _ _ _ _ [] rfl trivial ?_
      exact r_ret (v := some (.int (nI 0))) k_M_fitsAck rfl rfl (Nat.le_of_ble_eq_true rfl) (Nat.le_of_ble_eq_true rfl) ⟨⟨0, by omega, rfl⟩, rfl⟩
    · refine ft_run_ok k_M_fitsAck 2 _ _ _ _ [] rfl trivial ?_
      exact r_ret (v := some (.int (nI 1))) k_M_fitsAck rfl rfl (Nat.le_of_ble_eq_true rfl) (Nat.le_of_ble_eq_true rfl) ⟨⟨1, by omega, rfl⟩, rfl⟩
set_option maxRecDepth 100000 in
theorem t_M_fitsNumber {o : Nat} {e : Nat} {x_e : Int32} {x : Int64} (I : Iv D κ n E P h) (ho : κ o = (kd_M, 0)) (hE : ¬ E o) (q_e : x_e = nI e) (h_e : e < 2) : sm D y_M_fitsNumber 0 (lv_args 0 [.ref o, .int x_e, .long x]) [] h 0 0 (fun v h' => (∃ b : Nat, b ≤ 1 ∧ v = some (.int (nI b))) ∧ h' = h) := by
  subst q_e
  obtain ⟨a2, r1, k3, e4⟩ := I.get ho hE (20)
  have k3 : κ a2 = (46, 20) := k3
  refine ft_run_ok k_M_fitsNumber 5 _ _ _ _ [.ref a2] rfl ⟨I.K ho, r1, trivial⟩ ?_
  refine r_callS (as := [.int (nI e), .int (nI 1), .int (nI 1)]) (r := [.ref a2]) k_M_fitsNumber rfl z_M_feat rfl (Nat.le_of_ble_eq_true rfl) (Nat.le_of_ble_eq_true rfl) (Nat.le_of_ble_eq_true rfl) (Nat.le_of_ble_eq_true rfl) (t_M_feat (e := e) rfl (by omega) (w := 1) rfl (by omega) (f := 1) rfl (by omega)) ?_
  rintro v h' ⟨⟨n5, b6, rfl⟩, rfl⟩
  obtain ⟨x8, r7⟩ := I.get k3 e4 ((nI n5).toNatClampNeg)
  obtain ⟨a10, r9, k11, e12⟩ := I.get ho hE (14)
  have k11 : κ a10 = (40, 2) := k11
  obtain ⟨x14, r13⟩ := I.get k11 e12 ((nI e).toNatClampNeg)
  refine ft_run_ok k_M_fitsNumber 7 _ _ _ _ [.int (x8), .ref a10, .long (x14)] rfl ⟨I.Kd k3 rfl, I.vi k3 (by omega) (by decide), r7, I.K ho, r9, I.Kd k11 rfl, I.vi k11 (by omega) (by decide), r13, trivial⟩ ?_
  refine r_callS (as := [.long (x), .long (x14)]) (r := []) k_M_fitsNumber rfl z_M_before rfl (Nat.le_of_ble_eq_true rfl) (Nat.le_of_ble_eq_true rfl) (Nat.le_of_ble_eq_true rfl) (Nat.le_of_ble_eq_true rfl) (t_M_before) ?_
  rintro v h' ⟨⟨n15, b16, rfl⟩, rfl⟩
  refine r_if k_M_fitsNumber rfl rfl (fun c17 => ?_) (fun c17 => ?_)
  · have g18 := ft_ne0 (a := n15) c17
    refine ft_run_ok k_M_fitsNumber 1 _ _ _ _ [] rfl trivial ?_
    exact r_ret (v := some (.int (nI 0))) k_M_fitsNumber rfl rfl (Nat.le_of_ble_eq_true rfl) (Nat.le_of_ble_eq_true rfl) ⟨⟨0, by omega, rfl⟩, rfl⟩
  · have g19 := ft_eq0 (a := n15) (by omega) (Classical.not_not.mp c17)
    obtain ⟨a21, r20, k22, e23⟩ := I.get ho hE (13)
    have k22 : κ a21 = (39, 2) := k22
    obtain ⟨n25, b26, r24⟩ := I.get k22 e23 ((nI e).toNatClampNeg)
    refine ft_run_ok k_M_fitsNumber 12 _ _ _ _ [.ref a21, .long (lN n25)] rfl ⟨I.K ho, r20, I.Kd k22 rfl, I.vi k22 (by omega) (by decide), r24, (by decide), trivial⟩ ?_
    refine r_callS (as := [.long (((lN n25) + (lN 1)) - (((x8) / (nI 4)).toInt64))]) (r := [.long (x)]) k_M_fitsNumber rfl z_M_around rfl (Nat.le_of_ble_eq_true rfl) (Nat.le_of_ble_eq_true rfl) (Nat.le_of_ble_eq_true rfl) (Nat.le_of_ble_eq_true rfl) (t_M_around) ?_
    rintro v h' ⟨⟨n27, b28, rfl⟩, rfl⟩
    refine ft_run_ok k_M_fitsNumber 1 _ _ _ _ [] rfl trivial ?_
    refine r_callS (as := [.long ((x) - (lN n27))]) (r := []) k_M_fitsNumber rfl z_M_around rfl (Nat.le_of_ble_eq_true rfl) (Nat.le_of_ble_eq_true rfl) (Nat.le_of_ble_eq_true rfl) (Nat.le_of_ble_eq_true rfl) (t_M_around) ?_
    rintro v h' ⟨⟨n29, b30, rfl⟩, rfl⟩
    refine ft_run_ok k_M_fitsNumber 3 _ _ _ _ [] rfl trivial ?_
    refine r_if k_M_fitsNumber rfl rfl (fun c31 => ?_) (fun c31 => ?_)
    · refine ft_run_ok k_M_fitsNumber 1 _ _ _ _ [] rfl trivial ?_
      exact r_ret (v := some (.int (nI 0))) k_M_fitsNumber rfl rfl (Nat.le_of_ble_eq_true rfl) (Nat.le_of_ble_eq_true rfl) ⟨⟨0, by omega, rfl⟩, rfl⟩
    · refine ft_run_ok k_M_fitsNumber 2 _ _ _ _ [] rfl trivial ?_
      exact r_ret (v := some (.int (nI 1))) k_M_fitsNumber rfl rfl (Nat.le_of_ble_eq_true rfl) (Nat.le_of_ble_eq_true rfl) ⟨⟨1, by omega, rfl⟩, rfl⟩
set_option maxRecDepth 100000 in
theorem t_M_changes {o : Nat} {e : Nat} {x_e : Int32} (I : Iv D κ n E P h) (ho : κ o = (kd_M, 0)) (hE : ¬ E o) (q_e : x_e = nI e) (h_e : e < 2) : sm D y_M_changes 0 (lv_args 0 [.ref o, .int x_e]) [] h 0 0 (fun v h' => (∃ x : Int32, v = some (.int x)) ∧ h' = h) := by
  subst q_e
  have L7 : ∀ (t7 : Nat) (y2 : Int32) (j : Nat), 10 * e ≤ j ∧ j ≤ 10 * e + 10 → 10 * e + 10 - j < t7 → sm D y_M_changes 7 [(0, .ref o), (1, .int (nI e)), (2, .int (y2)), (3, .int (nI j))] [] h 0 0 (fun v h' => (∃ x : Int32, v = some (.int x)) ∧ h' = h) := by
    intro t7
    induction t7 with
    | zero => intro y2 j f7_0 ht7; exact absurd ht7 (Nat.not_lt_zero _)
    | succ t7 ih7 =>
      intro y2 j f7_0 ht7
      refine ft_run_ok k_M_changes 6 _ _ _ _ [] rfl trivial ?_
      refine r_icmp k_M_changes rfl rfl (fun c1 => ?_) (fun c1 => ?_)
      · have g2 := ft_le (a := ((10) * (e)) + (10)) (b := j) (by omega) (by omega) (by have q := c1; simp only [ft_cond2, nI_add, pk_mul] at q; exact q)
        refine ft_run_ok k_M_changes 1 _ _ _ _ [] rfl trivial ?_
        exact r_ret (v := some (.int (y2))) k_M_changes rfl trivial (Nat.le_of_ble_eq_true rfl) (Nat.le_of_ble_eq_true rfl) ⟨⟨_, rfl⟩, rfl⟩
      · have g3 := ft_nle (a := j) (b := ((10) * (e)) + (10)) (by omega) (by omega) (by have q := c1; simp only [ft_cond2, nI_add, pk_mul] at q; exact q)
        obtain ⟨a5, r4, k6, e7⟩ := I.get ho hE (23)
        have k6 : κ a5 = (49, 20) := k6
        obtain ⟨x9, r8⟩ := I.get k6 e7 ((nI j).toNatClampNeg)
        refine ft_run_ok k_M_changes 5 _ _ _ _ [.ref a5, .int (x9)] rfl ⟨I.K ho, r4, I.Kd k6 rfl, I.vi k6 (by omega) (by decide), r8, trivial⟩ ?_
        refine r_if k_M_changes rfl rfl (fun c10 => ?_) (fun c10 => ?_)
        · refine ft_run_ok k_M_changes 5 _ _ _ _ [] rfl trivial ?_
          rw [show ((nI j) + nI 1) = nI (j + 1) from by simp only [nI_add, pk_mul]]
          exact sm_sub [2, 3, 1, 0] rfl (ih7 ((y2) + (nI 0)) (j + 1) (by omega) (by omega))
        · refine ft_run_ok k_M_changes 6 _ _ _ _ [] rfl trivial ?_
          rw [show ((nI j) + nI 1) = nI (j + 1) from by simp only [nI_add, pk_mul]]
          exact sm_sub [2, 3, 1, 0] rfl (ih7 ((y2) + (nI 1)) (j + 1) (by omega) (by omega))
  refine ft_run_ok k_M_changes 6 _ _ _ _ [] rfl trivial ?_
  rw [show ((nI 10) * (nI e)) = nI ((10) * (e)) from by simp only [nI_add, pk_mul]]
  exact sm_sub [2, 3, 1, 0] rfl (L7 _ (nI 0) ((10) * (e)) (by omega) (Nat.lt_succ_self _))
set_option maxRecDepth 100000 in
theorem t_M_pipe {o : Nat} {e : Nat} {x_e : Int32} (I : Iv D κ n E P h) (ho : κ o = (kd_M, 0)) (hE : ¬ E o) (q_e : x_e = nI e) (h_e : e < 2) : sm D y_M_pipe 0 (lv_args 0 [.ref o, .int x_e]) [] h 0 0 (fun v h' => (∃ x : Int32, v = some (.int x)) ∧ h' = h) := by
  subst q_e
  have L4 : ∀ (t4 : Nat) (y2 : Int32) (j : Nat), j ≤ 256 → 256 - j < t4 → sm D y_M_pipe 4 [(0, .ref o), (1, .int (nI e)), (2, .int (y2)), (3, .int (nI j))] [] h 0 0 (fun v h' => (∃ x : Int32, v = some (.int x)) ∧ h' = h) := by
    intro t4
    induction t4 with
    | zero => intro y2 j f4_0 ht4; exact absurd ht4 (Nat.not_lt_zero _)
    | succ t4 ih4 =>
      intro y2 j f4_0 ht4
      refine ft_run_ok k_M_pipe 2 _ _ _ _ [] rfl trivial ?_
      refine r_icmp k_M_pipe rfl rfl (fun c1 => ?_) (fun c1 => ?_)
      · have g2 := ft_le (a := 256) (b := j) (by omega) (by omega) c1
        refine ft_run_ok k_M_pipe 1 _ _ _ _ [] rfl trivial ?_
        exact r_ret (v := some (.int (y2))) k_M_pipe rfl trivial (Nat.le_of_ble_eq_true rfl) (Nat.le_of_ble_eq_true rfl) ⟨⟨_, rfl⟩, rfl⟩
      · have g3 := ft_nle (a := j) (b := 256) (by omega) (by omega) c1
        obtain ⟨a5, r4, k6, e7⟩ := I.get ho hE (10)
        have k6 : κ a5 = (36, 2) := k6
        obtain ⟨x9, r8⟩ := I.get k6 e7 ((nI e).toNatClampNeg)
        refine ft_run_ok k_M_pipe 7 _ _ _ _ [.ref a5, .long (x9)] rfl ⟨I.K ho, r4, I.Kd k6 rfl, I.vi k6 (by omega) (by decide), r8, trivial⟩ ?_
        refine r_callS (as := [.long ((x9) - ((nI j).toInt64))]) (r := []) k_M_pipe rfl z_M_around rfl (Nat.le_of_ble_eq_true rfl) (Nat.le_of_ble_eq_true rfl) (Nat.le_of_ble_eq_true rfl) (Nat.le_of_ble_eq_true rfl) (t_M_around) ?_
        rintro v h' ⟨⟨n10, b11, rfl⟩, rfl⟩
        refine ft_run_ok k_M_pipe 5 _ _ _ _ [] rfl trivial ?_
        refine r_callV (as := [.int (nI e), .long (lN n10)]) (a := o) (ci := 11) (r := [.int (y2)]) k_M_pipe rfl z_M_isOwn rfl (by decide) rfl (I.K ho) (Nat.le_of_ble_eq_true rfl) (Nat.le_of_ble_eq_true rfl) (Nat.le_of_ble_eq_true rfl) (Nat.le_of_ble_eq_true rfl) (t_M_isOwn I ho hE (e := e) rfl (by omega)) ?_
        rintro v h' ⟨⟨n12, b13, rfl⟩, rfl⟩
        refine r_if k_M_pipe rfl rfl (fun c14 => ?_) (fun c14 => ?_)
        · have g15 := ft_eq0 (a := n12) (by omega) c14
          refine ft_run_ok k_M_pipe 5 _ _ _ _ [] rfl trivial ?_
          rw [show ((nI j) + nI 1) = nI (j + 1) from by simp only [nI_add, pk_mul]]
          exact sm_sub [3, 4, 1, 0] rfl (ih4 ((y2) + (nI 0)) (j + 1) (by omega) (by omega))
        · have g16 := ft_ne0 (a := n12) c14
          obtain ⟨a18, r17, k19, e20⟩ := I.get ho hE (17)
          have k19 : κ a18 = (43, 512) := k19
          refine ft_run_ok k_M_pipe 4 _ _ _ _ [.ref a18] rfl ⟨I.K ho, r17, trivial⟩ ?_
          refine r_callS (as := [.int (nI e), .long (lN n10)]) (r := [.ref a18, .int (y2)]) k_M_pipe rfl z_M_at rfl (Nat.le_of_ble_eq_true rfl) (Nat.le_of_ble_eq_true rfl) (Nat.le_of_ble_eq_true rfl) (Nat.le_of_ble_eq_true rfl) (t_M_at (e := e) rfl (by omega)) ?_
          rintro v h' ⟨⟨n21, b22, rfl⟩, rfl⟩
          obtain ⟨x24, r23⟩ := I.get k19 e20 ((nI n21).toNatClampNeg)
          refine ft_run_ok k_M_pipe 2 _ _ _ _ [.int (x24)] rfl ⟨I.Kd k19 rfl, I.vi k19 (by omega) (by decide), r23, trivial⟩ ?_
          refine r_icmp k_M_pipe rfl rfl (fun c25 => ?_) (fun c25 => ?_)
          · refine ft_run_ok k_M_pipe 5 _ _ _ _ [] rfl trivial ?_
            rw [show ((nI j) + nI 1) = nI (j + 1) from by simp only [nI_add, pk_mul]]
            exact sm_sub [3, 4, 1, 0] rfl (ih4 ((y2) + (nI 0)) (j + 1) (by omega) (by omega))
          · refine ft_run_ok k_M_pipe 6 _ _ _ _ [] rfl trivial ?_
            rw [show ((nI j) + nI 1) = nI (j + 1) from by simp only [nI_add, pk_mul]]
            exact sm_sub [3, 4, 1, 0] rfl (ih4 ((y2) + (nI 1)) (j + 1) (by omega) (by omega))
  refine ft_run_ok k_M_pipe 4 _ _ _ _ [] rfl trivial ?_
  exact sm_sub [2, 3, 1, 0] rfl (L4 _ (nI 0) (1) (by omega) (Nat.lt_succ_self _))
set_option maxRecDepth 100000 in
theorem t_M_mayBe {f : Int32} {x : Int32}  : sm D y_M_mayBe 0 (lv_args 0 [.int f, .int x]) [] h 0 0 (fun v h' => (∃ b : Nat, b ≤ 1 ∧ v = some (.int (nI b))) ∧ h' = h) := by
  refine ft_run_ok k_M_mayBe 2 _ _ _ _ [] rfl trivial ?_
  refine r_icmp k_M_mayBe rfl rfl (fun c1 => ?_) (fun c1 => ?_)
  · refine ft_run_ok k_M_mayBe 2 _ _ _ _ [] rfl trivial ?_
    refine r_icmp k_M_mayBe rfl rfl (fun c3 => ?_) (fun c3 => ?_)
    · refine ft_run_ok k_M_mayBe 2 _ _ _ _ [] rfl trivial ?_
      refine r_icmp k_M_mayBe rfl rfl (fun c5 => ?_) (fun c5 => ?_)
      · refine ft_run_ok k_M_mayBe 4 _ _ _ _ [] rfl trivial ?_
        refine r_callS (as := [.long ((x).toInt64), .long (lN 1), .long (lN 2)]) (r := []) k_M_mayBe rfl z_M_in rfl (Nat.le_of_ble_eq_true rfl) (Nat.le_of_ble_eq_true rfl) (Nat.le_of_ble_eq_true rfl) (Nat.le_of_ble_eq_true rfl) (t_M_in) ?_
        rintro v h' ⟨⟨n7, b8, rfl, m9⟩, rfl⟩
        exact r_ret (v := some (.int (nI n7))) k_M_mayBe rfl (ft_nb (by omega)) (Nat.le_of_ble_eq_true rfl) (Nat.le_of_ble_eq_true rfl) ⟨⟨n7, by omega, rfl⟩, rfl⟩
      · refine ft_run_ok k_M_mayBe 4 _ _ _ _ [] rfl trivial ?_
        refine r_callS (as := [.long ((x).toInt64), .long (lN 0), .long (lN 1)]) (r := []) k_M_mayBe rfl z_M_in rfl (Nat.le_of_ble_eq_true rfl) (Nat.le_of_ble_eq_true rfl) (Nat.le_of_ble_eq_true rfl) (Nat.le_of_ble_eq_true rfl) (t_M_in) ?_
        rintro v h' ⟨⟨n11, b12, rfl, m13⟩, rfl⟩
        refine ft_run_ok k_M_mayBe 1 _ _ _ _ [] rfl trivial ?_
        exact r_ret (v := some (.int (nI n11))) k_M_mayBe rfl (ft_nb (by omega)) (Nat.le_of_ble_eq_true rfl) (Nat.le_of_ble_eq_true rfl) ⟨⟨n11, by omega, rfl⟩, rfl⟩
    · refine ft_run_ok k_M_mayBe 4 _ _ _ _ [] rfl trivial ?_
      refine r_callS (as := [.long ((x).toInt64), .long (lN 1), .long (lN 20)]) (r := []) k_M_mayBe rfl z_M_in rfl (Nat.le_of_ble_eq_true rfl) (Nat.le_of_ble_eq_true rfl) (Nat.le_of_ble_eq_true rfl) (Nat.le_of_ble_eq_true rfl) (t_M_in) ?_
      rintro v h' ⟨⟨n15, b16, rfl, m17⟩, rfl⟩
      refine ft_run_ok k_M_mayBe 1 _ _ _ _ [] rfl trivial ?_
      exact r_ret (v := some (.int (nI n15))) k_M_mayBe rfl (ft_nb (by omega)) (Nat.le_of_ble_eq_true rfl) (Nat.le_of_ble_eq_true rfl) ⟨⟨n15, by omega, rfl⟩, rfl⟩
  · refine ft_run_ok k_M_mayBe 4 _ _ _ _ [] rfl trivial ?_
    refine r_callS (as := [.long ((x).toInt64), .long (lN 16), .long (lN 255)]) (r := []) k_M_mayBe rfl z_M_in rfl (Nat.le_of_ble_eq_true rfl) (Nat.le_of_ble_eq_true rfl) (Nat.le_of_ble_eq_true rfl) (Nat.le_of_ble_eq_true rfl) (t_M_in) ?_
    rintro v h' ⟨⟨n19, b20, rfl, m21⟩, rfl⟩
    refine ft_run_ok k_M_mayBe 1 _ _ _ _ [] rfl trivial ?_
    exact r_ret (v := some (.int (nI n19))) k_M_mayBe rfl (ft_nb (by omega)) (Nat.le_of_ble_eq_true rfl) (Nat.le_of_ble_eq_true rfl) ⟨⟨n19, by omega, rfl⟩, rfl⟩
set_option maxRecDepth 100000 in
theorem t_M_hasTold {o : Nat} {x : Int32} (I : Iv D κ n E P h) (ho : κ o = (kd_M, 0)) (hE : ¬ E o) : sm D y_M_hasTold 0 (lv_args 0 [.ref o, .int x]) [] h 0 0 (fun v h' => (∃ b : Nat, b ≤ 1 ∧ v = some (.int (nI b))) ∧ h' = h) := by
  have L2 : ∀ (t2 : Nat) (j : Nat), j ≤ 3 → 4 - j < t2 → sm D y_M_hasTold 2 [(0, .ref o), (1, .int (x)), (2, .int (nI j))] [] h 0 0 (fun v h' => (∃ b : Nat, b ≤ 1 ∧ v = some (.int (nI b))) ∧ h' = h) := by
    intro t2
    induction t2 with
    | zero => intro j f2_0 ht2; exact absurd ht2 (Nat.not_lt_zero _)
    | succ t2 ih2 =>
      intro j f2_0 ht2
      obtain ⟨n2, b3, r1⟩ := I.get ho hE (57)
      have b3 : n2 ≤ 3 := b3
      refine ft_run_ok k_M_hasTold 3 _ _ _ _ [.int (nI n2)] rfl ⟨I.K ho, r1, trivial⟩ ?_
      refine r_icmp k_M_hasTold rfl rfl (fun c4 => ?_) (fun c4 => ?_)
      · have g5 := ft_le (a := n2) (b := j) (by omega) (by omega) c4
        refine ft_run_ok k_M_hasTold 1 _ _ _ _ [] rfl trivial ?_
        exact r_ret (v := some (.int (nI 0))) k_M_hasTold rfl rfl (Nat.le_of_ble_eq_true rfl) (Nat.le_of_ble_eq_true rfl) ⟨⟨0, by omega, rfl⟩, rfl⟩
      · have g6 := ft_nle (a := j) (b := n2) (by omega) (by omega) c4
        obtain ⟨a8, r7, k9, e10⟩ := I.get ho hE (56)
        have k9 : κ a8 = (82, 4) := k9
        obtain ⟨x12, r11⟩ := I.get k9 e10 ((nI j).toNatClampNeg)
        refine ft_run_ok k_M_hasTold 5 _ _ _ _ [.ref a8, .int (x12)] rfl ⟨I.K ho, r7, I.Kd k9 rfl, I.vi k9 (by omega) (by decide), r11, trivial⟩ ?_
        refine r_icmp k_M_hasTold rfl rfl (fun c13 => ?_) (fun c13 => ?_)
        · refine ft_run_ok k_M_hasTold 2 _ _ _ _ [] rfl trivial ?_
          rw [show ((nI j) + nI 1) = nI (j + 1) from by simp only [nI_add, pk_mul]]
          exact sm_sub [1, 2, 0] rfl (ih2 (j + 1) (by omega) (by omega))
        · refine ft_run_ok k_M_hasTold 1 _ _ _ _ [] rfl trivial ?_
          exact r_ret (v := some (.int (nI 1))) k_M_hasTold rfl rfl (Nat.le_of_ble_eq_true rfl) (Nat.le_of_ble_eq_true rfl) ⟨⟨1, by omega, rfl⟩, rfl⟩
  refine ft_run_ok k_M_hasTold 2 _ _ _ _ [] rfl trivial ?_
  exact sm_sub [1, 2, 0] rfl (L2 _ (0) (by omega) (Nat.lt_succ_self _))
set_option maxRecDepth 100000 in
theorem t_M_hasOwn {o : Nat} {k : Nat} {x_k : Int32} {x : Int32} (I : Iv D κ n E P h) (ho : κ o = (kd_M, 0)) (hE : ¬ E o) (q_k : x_k = nI k) (h_k : k < 20) : sm D y_M_hasOwn 0 (lv_args 0 [.ref o, .int x_k, .int x]) [] h 0 0 (fun v h' => (∃ b : Nat, b ≤ 1 ∧ v = some (.int (nI b))) ∧ h' = h) := by
  subst q_k
  have L2 : ∀ (t2 : Nat) (j : Nat), j ≤ 3 → 4 - j < t2 → sm D y_M_hasOwn 2 [(0, .ref o), (1, .int (nI k)), (2, .int (x)), (3, .int (nI j))] [] h 0 0 (fun v h' => (∃ b : Nat, b ≤ 1 ∧ v = some (.int (nI b))) ∧ h' = h) := by
    intro t2
    induction t2 with
    | zero => intro j f2_0 ht2; exact absurd ht2 (Nat.not_lt_zero _)
    | succ t2 ih2 =>
      intro j f2_0 ht2
      obtain ⟨a2, r1, k3, e4⟩ := I.get ho hE (21)
      have k3 : κ a2 = (47, 20) := k3
      obtain ⟨n6, b7, r5⟩ := I.get k3 e4 ((nI k).toNatClampNeg)
      have b7 : n6 ≤ 3 := b7
      refine ft_run_ok k_M_hasOwn 5 _ _ _ _ [.ref a2, .int (nI n6)] rfl ⟨I.K ho, r1, I.Kd k3 rfl, I.vi k3 (by omega) (by decide), r5, trivial⟩ ?_
      refine r_icmp k_M_hasOwn rfl rfl (fun c8 => ?_) (fun c8 => ?_)
      · have g9 := ft_le (a := n6) (b := j) (by omega) (by omega) c8
        refine ft_run_ok k_M_hasOwn 1 _ _ _ _ [] rfl trivial ?_
        exact r_ret (v := some (.int (nI 0))) k_M_hasOwn rfl rfl (Nat.le_of_ble_eq_true rfl) (Nat.le_of_ble_eq_true rfl) ⟨⟨0, by omega, rfl⟩, rfl⟩
      · have g10 := ft_nle (a := j) (b := n6) (by omega) (by omega) c8
        obtain ⟨a12, r11, k13, e14⟩ := I.get ho hE (22)
        have k13 : κ a12 = (48, 60) := k13
        obtain ⟨x16, r15⟩ := I.get k13 e14 ((((nI 3) * (nI k)) + (nI j)).toNatClampNeg)
        refine ft_run_ok k_M_hasOwn 9 _ _ _ _ [.ref a12, .int (x16)] rfl ⟨I.K ho, r11, I.Kd k13 rfl, (by simp only [nI_add, pk_mul]; exact I.vi k13 (by omega) (by decide)), r15, trivial⟩ ?_
        refine r_icmp k_M_hasOwn rfl rfl (fun c17 => ?_) (fun c17 => ?_)
        · refine ft_run_ok k_M_hasOwn 2 _ _ _ _ [] rfl trivial ?_
          rw [show ((nI j) + nI 1) = nI (j + 1) from by simp only [nI_add, pk_mul]]
          exact sm_sub [1, 2, 3, 0] rfl (ih2 (j + 1) (by omega) (by omega))
        · refine ft_run_ok k_M_hasOwn 1 _ _ _ _ [] rfl trivial ?_
          exact r_ret (v := some (.int (nI 1))) k_M_hasOwn rfl rfl (Nat.le_of_ble_eq_true rfl) (Nat.le_of_ble_eq_true rfl) ⟨⟨1, by omega, rfl⟩, rfl⟩
  refine ft_run_ok k_M_hasOwn 2 _ _ _ _ [] rfl trivial ?_
  exact sm_sub [1, 2, 3, 0] rfl (L2 _ (0) (by omega) (Nat.lt_succ_self _))
/-- how long the head of a packet of a kind is -/
def hdN (k : Nat) : Nat := 10 + (if k ≠ 0 ∧ k ≠ 2 then 6 else 0) + (if k = 7 then 1 else 0)
theorem hdN_le (k : Nat) : 10 ≤ hdN k ∧ hdN k ≤ 17 := by
  unfold hdN
  split <;> split <;> omega
theorem t_M_headOf {o k : Nat} {x_k : Int32} (I : Iv D κ n E P h) (ho : κ o = (kd_M, 0)) (hE : ¬ E o) (q_k : x_k = nI k) (h_k : k < 256) : sm D y_M_headOf 0 (lv_args 0 [.ref o, .int x_k]) [] h 0 0 (fun v h' => v = some (.int (nI (hdN k))) ∧ h' = h) := by
  subst q_k
  have T : ∀ a : Nat, (a = if k ≠ 0 ∧ k ≠ 2 then 6 else 0) → sm D y_M_headOf 15 [(1, .int (nI k))] [.int (nI a), .int (nI 10)] h (0 + ft_mc y_M_hasAck) (0 + ft_mz y_M_hasAck) (fun v h' => v = some (.int (nI (hdN k))) ∧ h' = h) := by
    intro a ha
    refine ft_run_ok k_M_headOf 3 _ _ _ _ [] rfl trivial ?_
    refine r_icmp k_M_headOf rfl rfl (fun c2 => ?_) (fun c2 => ?_)
    · have g2 := ft_neq (a := k) (b := 7) (by omega) (by omega) c2
      refine ft_run_ok k_M_headOf 2 _ _ _ _ [] rfl trivial ?_
      exact r_ret (v := some (.int ((nI 10 + nI a) + nI 0))) k_M_headOf rfl trivial (Nat.le_of_ble_eq_true rfl) (Nat.le_of_ble_eq_true rfl) ⟨by rw [nI_add, nI_add]; unfold hdN; rw [if_neg g2, ← ha], rfl⟩
    · have g2 := ft_nneq (a := k) (b := 7) (by omega) (by omega) c2
      refine ft_run_ok k_M_headOf 3 _ _ _ _ [] rfl trivial ?_
      exact r_ret (v := some (.int ((nI 10 + nI a) + nI 1))) k_M_headOf rfl trivial (Nat.le_of_ble_eq_true rfl) (Nat.le_of_ble_eq_true rfl) ⟨by rw [nI_add, nI_add]; unfold hdN; rw [if_pos g2, ← ha], rfl⟩
  refine ft_run_ok k_M_headOf 2 _ _ _ _ [] rfl trivial ?_
  refine r_callS (as := [.int (nI k)]) (r := [.int (nI 10)]) k_M_headOf rfl z_M_hasAck rfl (Nat.le_of_ble_eq_true rfl) (Nat.le_of_ble_eq_true rfl) (Nat.le_of_ble_eq_true rfl) (Nat.le_of_ble_eq_true rfl) (t_M_hasAck rfl h_k) ?_
  rintro v h' ⟨⟨n1, b1, rfl, m1⟩, rfl⟩
  refine r_if k_M_headOf rfl rfl (fun c1 => ?_) (fun c1 => ?_)
  · have g1 := ft_eq0 (a := n1) (by omega) c1
    refine ft_run_ok k_M_headOf 1 _ _ _ _ [] rfl trivial ?_
    exact sm_sub [1] rfl (T 0 (by rw [if_neg (fun q => by have := m1.mpr q; omega)]))
  · have g1 := ft_ne0 (a := n1) c1
    refine ft_run_ok k_M_headOf 2 _ _ _ _ [] rfl trivial ?_
    exact sm_sub [1] rfl (T 6 (by rw [if_pos (m1.mp (by omega))]))
set_option maxRecDepth 100000 in
theorem t_M_ackDue {o : Nat} {e : Nat} {x_e : Int32} (I : Iv D κ n E P h) (ho : κ o = (kd_M, 0)) (hE : ¬ E o) (q_e : x_e = nI e) (h_e : e < 2) : sm D y_M_ackDue 0 (lv_args 0 [.ref o, .int x_e]) [] h 0 0 (fun v h' => (∃ b : Nat, b ≤ 1 ∧ v = some (.int (nI b))) ∧ h' = h) := by
  subst q_e
  obtain ⟨a2, r1, k3, e4⟩ := I.get ho hE (20)
  have k3 : κ a2 = (46, 20) := k3
  refine ft_run_ok k_M_ackDue 5 _ _ _ _ [.ref a2] rfl ⟨I.K ho, r1, trivial⟩ ?_
  refine r_callS (as := [.int (nI e), .int (nI 1), .int (nI 2)]) (r := [.ref a2]) k_M_ackDue rfl z_M_feat rfl (Nat.le_of_ble_eq_true rfl) (Nat.le_of_ble_eq_true rfl) (Nat.le_of_ble_eq_true rfl) (Nat.le_of_ble_eq_true rfl) (t_M_feat (e := e) rfl (by omega) (w := 1) rfl (by omega) (f := 2) rfl (by omega)) ?_
  rintro v h' ⟨⟨n5, b6, rfl⟩, rfl⟩
  obtain ⟨x8, r7⟩ := I.get k3 e4 ((nI n5).toNatClampNeg)
  obtain ⟨a10, r9, k11, e12⟩ := I.get ho hE (48)
  have k11 : κ a10 = (74, 2) := k11
  obtain ⟨x14, r13⟩ := I.get k11 e12 ((nI e).toNatClampNeg)
  refine ft_run_ok k_M_ackDue 6 _ _ _ _ [.int (x8), .ref a10, .int (x14)] rfl ⟨I.Kd k3 rfl, I.vi k3 (by omega) (by decide), r7, I.K ho, r9, I.Kd k11 rfl, I.vi k11 (by omega) (by decide), r13, trivial⟩ ?_
  refine r_if k_M_ackDue rfl rfl (fun c15 => ?_) (fun c15 => ?_)
  · refine ft_run_ok k_M_ackDue 1 _ _ _ _ [] rfl trivial ?_
    exact r_ret (v := some (.int (nI 0))) k_M_ackDue rfl rfl (Nat.le_of_ble_eq_true rfl) (Nat.le_of_ble_eq_true rfl) ⟨⟨0, by omega, rfl⟩, rfl⟩
  · obtain ⟨a19, r18, k20, e21⟩ := I.get ho hE (48)
    have k20 : κ a19 = (74, 2) := k20
    obtain ⟨x23, r22⟩ := I.get k20 e21 ((nI e).toNatClampNeg)
    refine ft_run_ok k_M_ackDue 5 _ _ _ _ [.ref a19, .int (x23)] rfl ⟨I.K ho, r18, I.Kd k20 rfl, I.vi k20 (by omega) (by decide), r22, trivial⟩ ?_
    refine r_icmp k_M_ackDue rfl rfl (fun c24 => ?_) (fun c24 => ?_)
    · refine ft_run_ok k_M_ackDue 2 _ _ _ _ [] rfl trivial ?_
      exact r_ret (v := some (.int (nI 1))) k_M_ackDue rfl rfl (Nat.le_of_ble_eq_true rfl) (Nat.le_of_ble_eq_true rfl) ⟨⟨1, by omega, rfl⟩, rfl⟩
    · have r27 := I.get ho hE (1)
      obtain ⟨a29, r28, k30, e31⟩ := I.get ho hE (47)
      have k30 : κ a29 = (73, 2) := k30
      obtain ⟨x33, r32⟩ := I.get k30 e31 ((nI e).toNatClampNeg)
      refine ft_run_ok k_M_ackDue 8 _ _ _ _ [.int (nI (P 1)), .ref a29, .int (x33)] rfl ⟨I.K ho, r27, I.K ho, r28, I.Kd k30 rfl, I.vi k30 (by omega) (by decide), r32, trivial⟩ ?_
      refine r_icmp k_M_ackDue rfl rfl (fun c34 => ?_) (fun c34 => ?_)
      · refine ft_run_ok k_M_ackDue 1 _ _ _ _ [] rfl trivial ?_
        exact r_ret (v := some (.int (nI 0))) k_M_ackDue rfl rfl (Nat.le_of_ble_eq_true rfl) (Nat.le_of_ble_eq_true rfl) ⟨⟨0, by omega, rfl⟩, rfl⟩
      · refine ft_run_ok k_M_ackDue 2 _ _ _ _ [] rfl trivial ?_
        exact r_ret (v := some (.int (nI 1))) k_M_ackDue rfl rfl (Nat.le_of_ble_eq_true rfl) (Nat.le_of_ble_eq_true rfl) ⟨⟨1, by omega, rfl⟩, rfl⟩
set_option maxRecDepth 100000 in
theorem t_M_wantsOptions {o : Nat} {e : Nat} {x_e : Int32} (I : Iv D κ n E P h) (ho : κ o = (kd_M, 0)) (hE : ¬ E o) (q_e : x_e = nI e) (h_e : e < 2) : sm D y_M_wantsOptions 0 (lv_args 0 [.ref o, .int x_e]) [] h 0 0 (fun v h' => (∃ b : Nat, b ≤ 1 ∧ v = some (.int (nI b))) ∧ h' = h) := by
  subst q_e
  obtain ⟨a2, r1, k3, e4⟩ := I.get ho hE (26)
  have k3 : κ a2 = (52, 2) := k3
  obtain ⟨n6, b7, r5⟩ := I.get k3 e4 ((nI e).toNatClampNeg)
  have b7 : n6 ≤ 12 := b7
  refine ft_run_ok k_M_wantsOptions 4 _ _ _ _ [.ref a2, .int (nI n6)] rfl ⟨I.K ho, r1, I.Kd k3 rfl, I.vi k3 (by omega) (by decide), r5, trivial⟩ ?_
  refine r_if k_M_wantsOptions rfl rfl (fun c8 => ?_) (fun c8 => ?_)
  · have g9 := ft_gt0 (a := n6) c8
    refine ft_run_ok k_M_wantsOptions 2 _ _ _ _ [] rfl trivial ?_
    exact r_ret (v := some (.int (nI 1))) k_M_wantsOptions rfl rfl (Nat.le_of_ble_eq_true rfl) (Nat.le_of_ble_eq_true rfl) ⟨⟨1, by omega, rfl⟩, rfl⟩
  · have g10 := ft_le0 (a := n6) (by omega) (Int32.not_lt.mp c8)
    refine ft_run_ok k_M_wantsOptions 2 _ _ _ _ [] rfl trivial ?_
    refine r_callV (as := [.int (nI e)]) (a := o) (ci := 11) (r := []) k_M_wantsOptions rfl z_M_changes rfl (by decide) rfl (I.K ho) (Nat.le_of_ble_eq_true rfl) (Nat.le_of_ble_eq_true rfl) (Nat.le_of_ble_eq_true rfl) (Nat.le_of_ble_eq_true rfl) (t_M_changes I ho hE (e := e) rfl (by omega)) ?_
    rintro v h' ⟨⟨x11, rfl⟩, rfl⟩
    refine r_if k_M_wantsOptions rfl rfl (fun c12 => ?_) (fun c12 => ?_)
    · refine ft_run_ok k_M_wantsOptions 1 _ _ _ _ [] rfl trivial ?_
      exact r_ret (v := some (.int (nI 0))) k_M_wantsOptions rfl rfl (Nat.le_of_ble_eq_true rfl) (Nat.le_of_ble_eq_true rfl) ⟨⟨0, by omega, rfl⟩, rfl⟩
    · obtain ⟨a16, r15, k17, e18⟩ := I.get ho hE (46)
      have k17 : κ a16 = (72, 2) := k17
      obtain ⟨x20, r19⟩ := I.get k17 e18 ((nI e).toNatClampNeg)
      refine ft_run_ok k_M_wantsOptions 4 _ _ _ _ [.ref a16, .int (x20)] rfl ⟨I.K ho, r15, I.Kd k17 rfl, I.vi k17 (by omega) (by decide), r19, trivial⟩ ?_
      refine r_if k_M_wantsOptions rfl rfl (fun c21 => ?_) (fun c21 => ?_)
      · refine ft_run_ok k_M_wantsOptions 2 _ _ _ _ [] rfl trivial ?_
        exact r_ret (v := some (.int (nI 1))) k_M_wantsOptions rfl rfl (Nat.le_of_ble_eq_true rfl) (Nat.le_of_ble_eq_true rfl) ⟨⟨1, by omega, rfl⟩, rfl⟩
      · have r24 := I.get ho hE (1)
        obtain ⟨a26, r25, k27, e28⟩ := I.get ho hE (44)
        have k27 : κ a26 = (70, 2) := k27
        obtain ⟨x30, r29⟩ := I.get k27 e28 ((nI e).toNatClampNeg)
        refine ft_run_ok k_M_wantsOptions 8 _ _ _ _ [.int (nI (P 1)), .ref a26, .int (x30)] rfl ⟨I.K ho, r24, I.K ho, r25, I.Kd k27 rfl, I.vi k27 (by omega) (by decide), r29, trivial⟩ ?_
        refine r_icmp k_M_wantsOptions rfl rfl (fun c31 => ?_) (fun c31 => ?_)
        · refine ft_run_ok k_M_wantsOptions 1 _ _ _ _ [] rfl trivial ?_
          exact r_ret (v := some (.int (nI 0))) k_M_wantsOptions rfl rfl (Nat.le_of_ble_eq_true rfl) (Nat.le_of_ble_eq_true rfl) ⟨⟨0, by omega, rfl⟩, rfl⟩
        · refine ft_run_ok k_M_wantsOptions 2 _ _ _ _ [] rfl trivial ?_
          exact r_ret (v := some (.int (nI 1))) k_M_wantsOptions rfl rfl (Nat.le_of_ble_eq_true rfl) (Nat.le_of_ble_eq_true rfl) ⟨⟨1, by omega, rfl⟩, rfl⟩
theorem t_M_isEnd {x : Int32} : sm D y_M_isEnd 0 (lv_args 0 [.int x]) [] h 0 0 (fun v h' => (∃ b : Nat, b ≤ 1 ∧ v = some (.int (nI b)) ∧ (b = 1 → ∃ e : Nat, e < 2 ∧ x = nI e)) ∧ h' = h) := by
  refine ft_run_ok k_M_isEnd 4 0 _ _ _ [] rfl trivial ?_
  refine r_callS (as := [.long (x.toInt64), .long (lN 0), .long (lN 1)]) (r := []) k_M_isEnd rfl z_M_in rfl (Nat.le_of_ble_eq_true rfl) (Nat.le_of_ble_eq_true rfl) (Nat.le_of_ble_eq_true rfl) (Nat.le_of_ble_eq_true rfl) t_M_in ?_
  rintro v h' ⟨⟨n1, b1, rfl, m1⟩, rfl⟩
  exact r_ret (v := some (.int (nI n1))) k_M_isEnd rfl (ft_nb (by omega)) (Nat.le_of_ble_eq_true rfl) (Nat.le_of_ble_eq_true rfl) ⟨⟨n1, b1, rfl, fun q => by
    obtain ⟨e, _, h2, h3⟩ := ft_rng (m1.mp q).1 (m1.mp q).2 (by decide) (by decide)
    exact ⟨e, by omega, h3⟩⟩, rfl⟩
set_option maxRecDepth 100000 in
theorem t_M_state {o : Nat} {x : Int32} (I : Iv D κ n E P h) (ho : κ o = (kd_M, 0)) (hE : ¬ E o) : sm D y_M_state 0 (lv_args 0 [.ref o, .int x]) [] h 0 0 (fun v h' => (∃ x : Int32, v = some (.int x)) ∧ h' = h) := by
  refine ft_run_ok k_M_state 1 _ _ _ _ [] rfl trivial ?_
  refine r_callS (as := [.int (x)]) (r := []) k_M_state rfl z_M_isEnd rfl (Nat.le_of_ble_eq_true rfl) (Nat.le_of_ble_eq_true rfl) (Nat.le_of_ble_eq_true rfl) (Nat.le_of_ble_eq_true rfl) (t_M_isEnd) ?_
  rintro v h' ⟨⟨n1, b2, rfl, m3⟩, rfl⟩
  refine r_if k_M_state rfl rfl (fun c4 => ?_) (fun c4 => ?_)
  · have g5 := ft_eq0 (a := n1) (by omega) c4
    refine ft_run_ok k_M_state 1 _ _ _ _ [] rfl trivial ?_
    exact r_ret (v := some (.int ((Int8.ofInt (Int.negSucc 100)).toInt32))) k_M_state rfl trivial (Nat.le_of_ble_eq_true rfl) (Nat.le_of_ble_eq_true rfl) ⟨⟨_, rfl⟩, rfl⟩
  · have g6 := ft_ne0 (a := n1) c4
    obtain ⟨e, h_e, rfl⟩ := m3 (by omega)
    obtain ⟨a8, r7, k9, e10⟩ := I.get ho hE (9)
    have k9 : κ a8 = (35, 2) := k9
    obtain ⟨x12, r11⟩ := I.get k9 e10 ((nI e).toNatClampNeg)
    refine ft_run_ok k_M_state 5 _ _ _ _ [.ref a8, .int (x12)] rfl ⟨I.K ho, r7, I.Kd k9 rfl, I.vi k9 (by omega) (by decide), r11, trivial⟩ ?_
    exact r_ret (v := some (.int (x12))) k_M_state rfl trivial (Nat.le_of_ble_eq_true rfl) (Nat.le_of_ble_eq_true rfl) ⟨⟨_, rfl⟩, rfl⟩
set_option maxRecDepth 100000 in
theorem t_M_way {o : Nat} (I : Iv D κ n E P h) (ho : κ o = (kd_M, 0)) (hE : ¬ E o) : sm D y_M_way 0 (lv_args 0 [.ref o]) [] h 0 0 (fun v h' => (∃ x : Int32, v = some (.int x)) ∧ h' = h) := by
  obtain ⟨n2, b3, r1⟩ := I.get ho hE (2)
  have b3 : n2 ≤ 60 := b3
  refine ft_run_ok k_M_way 2 _ _ _ _ [.int (nI n2)] rfl ⟨I.K ho, r1, trivial⟩ ?_
  exact r_ret (v := some (.int (nI n2))) k_M_way rfl trivial (Nat.le_of_ble_eq_true rfl) (Nat.le_of_ble_eq_true rfl) ⟨⟨_, rfl⟩, rfl⟩
set_option maxRecDepth 100000 in
theorem t_M_number {o : Nat} {x : Int32} {w : Int32} (I : Iv D κ n E P h) (ho : κ o = (kd_M, 0)) (hE : ¬ E o) : sm D y_M_number 0 (lv_args 0 [.ref o, .int x, .int w]) [] h 0 0 (fun v h' => (∃ x : Int64, v = some (.long x)) ∧ h' = h) := by
  refine ft_run_ok k_M_number 1 _ _ _ _ [] rfl trivial ?_
  refine r_callS (as := [.int (x)]) (r := []) k_M_number rfl z_M_isEnd rfl (Nat.le_of_ble_eq_true rfl) (Nat.le_of_ble_eq_true rfl) (Nat.le_of_ble_eq_true rfl) (Nat.le_of_ble_eq_true rfl) (t_M_isEnd) ?_
  rintro v h' ⟨⟨n1, b2, rfl, m3⟩, rfl⟩
  refine r_if k_M_number rfl rfl (fun c4 => ?_) (fun c4 => ?_)
  · have g5 := ft_ne0 (a := n1) c4
    obtain ⟨e, h_e, rfl⟩ := m3 (by omega)
    refine ft_run_ok k_M_number 1 _ _ _ _ [] rfl trivial ?_
    by_cases sw : (w).toInt < 0 ∨ 5 < (w).toInt
    · refine r_swOut k_M_number rfl sw rfl ?_
      refine ft_run_ok k_M_number 1 _ _ _ _ [] rfl trivial ?_
      exact r_ret (v := some (.long (lN 18446744073709551514))) k_M_number rfl trivial (Nat.le_of_ble_eq_true rfl) (Nat.le_of_ble_eq_true rfl) ⟨⟨_, rfl⟩, rfl⟩
    · have s1 : ¬ (w).toInt < 0 := fun q => sw (Or.inl q)
      have s2 : ¬ 5 < (w).toInt := fun q => sw (Or.inr q)
      rcases (show (w).toInt = 0 ∨ (w).toInt = 1 ∨ (w).toInt = 2 ∨ (w).toInt = 3 ∨ (w).toInt = 4 ∨ (w).toInt = 5 by omega) with sv | sv | sv | sv | sv | sv
      · refine r_swIn k_M_number rfl s1 s2 (by rw [sv]; rfl) rfl ?_
        obtain ⟨a7, r6, k8, e9⟩ := I.get ho hE (10)
        have k8 : κ a7 = (36, 2) := k8
        obtain ⟨x11, r10⟩ := I.get k8 e9 ((nI e).toNatClampNeg)
        refine ft_run_ok k_M_number 4 _ _ _ _ [.ref a7, .long (x11)] rfl ⟨I.K ho, r6, I.Kd k8 rfl, I.vi k8 (by omega) (by decide), r10, trivial⟩ ?_
        exact r_ret (v := some (.long (x11))) k_M_number rfl trivial (Nat.le_of_ble_eq_true rfl) (Nat.le_of_ble_eq_true rfl) ⟨⟨_, rfl⟩, rfl⟩
      · refine r_swIn k_M_number rfl s1 s2 (by rw [sv]; rfl) rfl ?_
        obtain ⟨a13, r12, k14, e15⟩ := I.get ho hE (11)
        have k14 : κ a13 = (37, 2) := k14
        obtain ⟨x17, r16⟩ := I.get k14 e15 ((nI e).toNatClampNeg)
        refine ft_run_ok k_M_number 4 _ _ _ _ [.ref a13, .long (x17)] rfl ⟨I.K ho, r12, I.Kd k14 rfl, I.vi k14 (by omega) (by decide), r16, trivial⟩ ?_
        exact r_ret (v := some (.long (x17))) k_M_number rfl trivial (Nat.le_of_ble_eq_true rfl) (Nat.le_of_ble_eq_true rfl) ⟨⟨_, rfl⟩, rfl⟩
      · refine r_swIn k_M_number rfl s1 s2 (by rw [sv]; rfl) rfl ?_
        obtain ⟨a19, r18, k20, e21⟩ := I.get ho hE (13)
        have k20 : κ a19 = (39, 2) := k20
        obtain ⟨n23, b24, r22⟩ := I.get k20 e21 ((nI e).toNatClampNeg)
        refine ft_run_ok k_M_number 4 _ _ _ _ [.ref a19, .long (lN n23)] rfl ⟨I.K ho, r18, I.Kd k20 rfl, I.vi k20 (by omega) (by decide), r22, trivial⟩ ?_
        exact r_ret (v := some (.long (lN n23))) k_M_number rfl trivial (Nat.le_of_ble_eq_true rfl) (Nat.le_of_ble_eq_true rfl) ⟨⟨_, rfl⟩, rfl⟩
      · refine r_swIn k_M_number rfl s1 s2 (by rw [sv]; rfl) rfl ?_
        obtain ⟨a26, r25, k27, e28⟩ := I.get ho hE (14)
        have k27 : κ a26 = (40, 2) := k27
        obtain ⟨x30, r29⟩ := I.get k27 e28 ((nI e).toNatClampNeg)
        refine ft_run_ok k_M_number 4 _ _ _ _ [.ref a26, .long (x30)] rfl ⟨I.K ho, r25, I.Kd k27 rfl, I.vi k27 (by omega) (by decide), r29, trivial⟩ ?_
        exact r_ret (v := some (.long (x30))) k_M_number rfl trivial (Nat.le_of_ble_eq_true rfl) (Nat.le_of_ble_eq_true rfl) ⟨⟨_, rfl⟩, rfl⟩
      · refine r_swIn k_M_number rfl s1 s2 (by rw [sv]; rfl) rfl ?_
        obtain ⟨a32, r31, k33, e34⟩ := I.get ho hE (15)
        have k33 : κ a32 = (41, 2) := k33
        obtain ⟨x36, r35⟩ := I.get k33 e34 ((nI e).toNatClampNeg)
        refine ft_run_ok k_M_number 4 _ _ _ _ [.ref a32, .long (x36)] rfl ⟨I.K ho, r31, I.Kd k33 rfl, I.vi k33 (by omega) (by decide), r35, trivial⟩ ?_
        exact r_ret (v := some (.long (x36))) k_M_number rfl trivial (Nat.le_of_ble_eq_true rfl) (Nat.le_of_ble_eq_true rfl) ⟨⟨_, rfl⟩, rfl⟩
      · refine r_swIn k_M_number rfl s1 s2 (by rw [sv]; rfl) rfl ?_
        obtain ⟨a38, r37, k39, e40⟩ := I.get ho hE (38)
        have k39 : κ a38 = (64, 2) := k39
        obtain ⟨x42, r41⟩ := I.get k39 e40 ((nI e).toNatClampNeg)
        refine ft_run_ok k_M_number 4 _ _ _ _ [.ref a38, .int (x42)] rfl ⟨I.K ho, r37, I.Kd k39 rfl, I.vi k39 (by omega) (by decide), r41, trivial⟩ ?_
        refine r_if k_M_number rfl rfl (fun c43 => ?_) (fun c43 => ?_)
        · refine ft_run_ok k_M_number 1 _ _ _ _ [] rfl trivial ?_
          exact r_ret (v := some (.long (lN 18446744073709551615))) k_M_number rfl trivial (Nat.le_of_ble_eq_true rfl) (Nat.le_of_ble_eq_true rfl) ⟨⟨_, rfl⟩, rfl⟩
        · obtain ⟨a47, r46, k48, e49⟩ := I.get ho hE (39)
          have k48 : κ a47 = (65, 2) := k48
          obtain ⟨x51, r50⟩ := I.get k48 e49 ((nI e).toNatClampNeg)
          refine ft_run_ok k_M_number 5 _ _ _ _ [.ref a47, .long (x51)] rfl ⟨I.K ho, r46, I.Kd k48 rfl, I.vi k48 (by omega) (by decide), r50, trivial⟩ ?_
          exact r_ret (v := some (.long (x51))) k_M_number rfl trivial (Nat.le_of_ble_eq_true rfl) (Nat.le_of_ble_eq_true rfl) ⟨⟨_, rfl⟩, rfl⟩
  · have g52 := ft_eq0 (a := n1) (by omega) (Classical.not_not.mp c4)
    refine ft_run_ok k_M_number 1 _ _ _ _ [] rfl trivial ?_
    exact r_ret (v := some (.long (lN 18446744073709551515))) k_M_number rfl trivial (Nat.le_of_ble_eq_true rfl) (Nat.le_of_ble_eq_true rfl) ⟨⟨_, rfl⟩, rfl⟩
theorem t_M_isThere {o : Nat} {x : Int32} (I : Iv D κ n E P h) (ho : κ o = (kd_M, 0)) (hE : ¬ E o) : sm D y_M_isThere 0 (lv_args 0 [.ref o, .int x]) [] h 0 0 (fun v h' => (∃ b : Nat, b ≤ 1 ∧ v = some (.int (nI b)) ∧ (b = 1 → ∃ j w : Nat, x = nI j ∧ h.1 o pl_M_onWay = .int (nI w) ∧ j < w ∧ w ≤ 60)) ∧ h' = h) := by
  obtain ⟨w, hw, r1⟩ := I.get ho hE pl_M_onWay
  have hw : w ≤ 60 := hw
  refine ft_run_ok k_M_isThere 8 0 _ _ _ [.int (nI w)] rfl ⟨I.K ho, r1, trivial⟩ ?_
  refine r_callS (as := [.long (x.toInt64), .long (lN 0), .long (((nI w) - (nI 1)).toInt64)]) (r := []) k_M_isThere rfl z_M_in rfl (Nat.le_of_ble_eq_true rfl) (Nat.le_of_ble_eq_true rfl) (Nat.le_of_ble_eq_true rfl) (Nat.le_of_ble_eq_true rfl) t_M_in ?_
  rintro v h' ⟨⟨n1, b1, rfl, m1⟩, rfl⟩
  exact r_ret (v := some (.int (nI n1))) k_M_isThere rfl (ft_nb (by omega)) (Nat.le_of_ble_eq_true rfl) (Nat.le_of_ble_eq_true rfl) ⟨⟨n1, b1, rfl, fun q => by
    obtain ⟨j, hj, hx⟩ := ft_rngm (m1.mp q).1 (m1.mp q).2 (by omega)
    exact ⟨j, w, hx, r1, hj, hw⟩⟩, rfl⟩
set_option maxRecDepth 100000 in
theorem t_M_packet {o : Nat} {x : Int32} {w : Int32} (I : Iv D κ n E P h) (ho : κ o = (kd_M, 0)) (hE : ¬ E o) : sm D y_M_packet 0 (lv_args 0 [.ref o, .int x, .int w]) [] h 0 0 (fun v h' => (∃ x : Int32, v = some (.int x)) ∧ h' = h) := by
  refine ft_run_ok k_M_packet 2 _ _ _ _ [] rfl trivial ?_
  refine r_callV (as := [.int (x)]) (a := o) (ci := 11) (r := []) k_M_packet rfl z_M_isThere rfl (by decide) rfl (I.K ho) (Nat.le_of_ble_eq_true rfl) (Nat.le_of_ble_eq_true rfl) (Nat.le_of_ble_eq_true rfl) (Nat.le_of_ble_eq_true rfl) (t_M_isThere I ho hE) ?_
  rintro v h' ⟨⟨n1, b2, rfl, m3⟩, rfl⟩
  refine r_if k_M_packet rfl rfl (fun c4 => ?_) (fun c4 => ?_)
  · have g5 := ft_ne0 (a := n1) c4
    obtain ⟨j, w_j, rfl, hw_j, h_j, hv_j⟩ := m3 (by omega)
    refine ft_run_ok k_M_packet 1 _ _ _ _ [] rfl trivial ?_
    refine r_if k_M_packet rfl rfl (fun c6 => ?_) (fun c6 => ?_)
    · refine ft_run_ok k_M_packet 2 _ _ _ _ [] rfl trivial ?_
      refine r_icmp k_M_packet rfl rfl (fun c8 => ?_) (fun c8 => ?_)
      · refine ft_run_ok k_M_packet 2 _ _ _ _ [] rfl trivial ?_
        refine r_icmp k_M_packet rfl rfl (fun c10 => ?_) (fun c10 => ?_)
        · refine ft_run_ok k_M_packet 1 _ _ _ _ [] rfl trivial ?_
          exact r_ret (v := some (.int ((Int8.ofInt (Int.negSucc 101)).toInt32))) k_M_packet rfl trivial (Nat.le_of_ble_eq_true rfl) (Nat.le_of_ble_eq_true rfl) ⟨⟨_, rfl⟩, rfl⟩
        · obtain ⟨a14, r13, k15, e16⟩ := I.get ho hE (5)
          have k15 : κ a14 = (32, 61) := k15
          obtain ⟨n18, b19, r17⟩ := I.get k15 e16 ((nI j).toNatClampNeg)
          have b19 : n18 ≤ 256 := b19
          refine ft_run_ok k_M_packet 5 _ _ _ _ [.ref a14, .int (nI n18)] rfl ⟨I.K ho, r13, I.Kd k15 rfl, I.vi k15 (by omega) (by decide), r17, trivial⟩ ?_
          exact r_ret (v := some (.int (nI n18))) k_M_packet rfl trivial (Nat.le_of_ble_eq_true rfl) (Nat.le_of_ble_eq_true rfl) ⟨⟨_, rfl⟩, rfl⟩
      · obtain ⟨a22, r21, k23, e24⟩ := I.get ho hE (4)
        have k23 : κ a22 = (31, 61) := k23
        obtain ⟨x26, r25⟩ := I.get k23 e24 ((nI j).toNatClampNeg)
        refine ft_run_ok k_M_packet 5 _ _ _ _ [.ref a22, .int (x26)] rfl ⟨I.K ho, r21, I.Kd k23 rfl, I.vi k23 (by omega) (by decide), r25, trivial⟩ ?_
        exact r_ret (v := some (.int (x26))) k_M_packet rfl trivial (Nat.le_of_ble_eq_true rfl) (Nat.le_of_ble_eq_true rfl) ⟨⟨_, rfl⟩, rfl⟩
    · obtain ⟨a29, r28, k30, e31⟩ := I.get ho hE (3)
      have k30 : κ a29 = (30, 61) := k30
      obtain ⟨n33, b34, r32⟩ := I.get k30 e31 ((nI j).toNatClampNeg)
      have b34 : n33 ≤ 1 := b34
      refine ft_run_ok k_M_packet 5 _ _ _ _ [.ref a29, .int (nI n33)] rfl ⟨I.K ho, r28, I.Kd k30 rfl, I.vi k30 (by omega) (by decide), r32, trivial⟩ ?_
      exact r_ret (v := some (.int (nI n33))) k_M_packet rfl trivial (Nat.le_of_ble_eq_true rfl) (Nat.le_of_ble_eq_true rfl) ⟨⟨_, rfl⟩, rfl⟩
  · have g35 := ft_eq0 (a := n1) (by omega) (Classical.not_not.mp c4)
    refine ft_run_ok k_M_packet 1 _ _ _ _ [] rfl trivial ?_
    exact r_ret (v := some (.int ((Int8.ofInt (Int.negSucc 100)).toInt32))) k_M_packet rfl trivial (Nat.le_of_ble_eq_true rfl) (Nat.le_of_ble_eq_true rfl) ⟨⟨_, rfl⟩, rfl⟩
set_option maxRecDepth 100000 in
theorem t_M_octet {o : Nat} {x : Int32} {k : Int32} (I : Iv D κ n E P h) (ho : κ o = (kd_M, 0)) (hE : ¬ E o) : sm D y_M_octet 0 (lv_args 0 [.ref o, .int x, .int k]) [] h 0 0 (fun v h' => (∃ x : Int32, v = some (.int x)) ∧ h' = h) := by
  refine ft_run_ok k_M_octet 2 _ _ _ _ [] rfl trivial ?_
  refine r_callV (as := [.int (x)]) (a := o) (ci := 11) (r := []) k_M_octet rfl z_M_isThere rfl (by decide) rfl (I.K ho) (Nat.le_of_ble_eq_true rfl) (Nat.le_of_ble_eq_true rfl) (Nat.le_of_ble_eq_true rfl) (Nat.le_of_ble_eq_true rfl) (t_M_isThere I ho hE) ?_
  rintro v h' ⟨⟨n1, b2, rfl, m3⟩, rfl⟩
  refine r_if k_M_octet rfl rfl (fun c4 => ?_) (fun c4 => ?_)
  · have g5 := ft_eq0 (a := n1) (by omega) c4
    refine ft_run_ok k_M_octet 1 _ _ _ _ [] rfl trivial ?_
    exact r_ret (v := some (.int ((Int8.ofInt (Int.negSucc 100)).toInt32))) k_M_octet rfl trivial (Nat.le_of_ble_eq_true rfl) (Nat.le_of_ble_eq_true rfl) ⟨⟨_, rfl⟩, rfl⟩
  · have g6 := ft_ne0 (a := n1) c4
    obtain ⟨j, w_j, rfl, hw_j, h_j, hv_j⟩ := m3 (by omega)
    obtain ⟨a8, r7, k9, e10⟩ := I.get ho hE (5)
    have k9 : κ a8 = (32, 61) := k9
    obtain ⟨n12, b13, r11⟩ := I.get k9 e10 ((nI j).toNatClampNeg)
    have b13 : n12 ≤ 256 := b13
    refine ft_run_ok k_M_octet 10 _ _ _ _ [.ref a8, .int (nI n12)] rfl ⟨I.K ho, r7, I.Kd k9 rfl, I.vi k9 (by omega) (by decide), r11, trivial⟩ ?_
    refine r_callS (as := [.long ((k).toInt64), .long (lN 0), .long (((nI n12) - (nI 1)).toInt64)]) (r := []) k_M_octet rfl z_M_in rfl (Nat.le_of_ble_eq_true rfl) (Nat.le_of_ble_eq_true rfl) (Nat.le_of_ble_eq_true rfl) (Nat.le_of_ble_eq_true rfl) (t_M_in) ?_
    rintro v h' ⟨⟨n14, b15, rfl, m16⟩, rfl⟩
    refine r_if k_M_octet rfl rfl (fun c17 => ?_) (fun c17 => ?_)
    · have g18 := ft_eq0 (a := n14) (by omega) c17
      refine ft_run_ok k_M_octet 1 _ _ _ _ [] rfl trivial ?_
      exact r_ret (v := some (.int ((Int8.ofInt (Int.negSucc 100)).toInt32))) k_M_octet rfl trivial (Nat.le_of_ble_eq_true rfl) (Nat.le_of_ble_eq_true rfl) ⟨⟨_, rfl⟩, rfl⟩
    · have g19 := ft_ne0 (a := n14) c17
      obtain ⟨q, h_q, rfl⟩ := ft_rngm (m16.mp (by omega)).1 (m16.mp (by omega)).2 (by omega)
      obtain ⟨a21, r20, k22, e23⟩ := I.get ho hE (6)
      have k22 : κ a21 = (33, 15616) := k22
      obtain ⟨n25, b26, r24⟩ := I.get k22 e23 ((((nI 256) * (nI j)) + (nI q)).toNatClampNeg)
      have b26 : n25 ≤ 255 := b26
      refine ft_run_ok k_M_octet 9 _ _ _ _ [.ref a21, .int (nI n25)] rfl ⟨I.K ho, r20, I.Kd k22 rfl, (by simp only [nI_add, pk_mul]; exact I.vi k22 (by omega) (by decide)), r24, trivial⟩ ?_
      exact r_ret (v := some (.int (nI n25))) k_M_octet rfl trivial (Nat.le_of_ble_eq_true rfl) (Nat.le_of_ble_eq_true rfl) ⟨⟨_, rfl⟩, rfl⟩
set_option maxRecDepth 100000 in
theorem t_M_seen {o : Nat} {x : Int32} {m : Int64} (I : Iv D κ n E P h) (ho : κ o = (kd_M, 0)) (hE : ¬ E o) : sm D y_M_seen 0 (lv_args 0 [.ref o, .int x, .long m]) [] h 0 0 (fun v h' => (∃ x : Int32, v = some (.int x)) ∧ h' = h) := by
  refine ft_run_ok k_M_seen 1 _ _ _ _ [] rfl trivial ?_
  refine r_callS (as := [.int (x)]) (r := []) k_M_seen rfl z_M_isEnd rfl (Nat.le_of_ble_eq_true rfl) (Nat.le_of_ble_eq_true rfl) (Nat.le_of_ble_eq_true rfl) (Nat.le_of_ble_eq_true rfl) (t_M_isEnd) ?_
  rintro v h' ⟨⟨n1, b2, rfl, m3⟩, rfl⟩
  refine r_if k_M_seen rfl rfl (fun c4 => ?_) (fun c4 => ?_)
  · have g5 := ft_ne0 (a := n1) c4
    obtain ⟨e, h_e, rfl⟩ := m3 (by omega)
    refine ft_run_ok k_M_seen 1 _ _ _ _ [] rfl trivial ?_
    refine r_callS (as := [.long (m)]) (r := []) k_M_seen rfl z_M_around rfl (Nat.le_of_ble_eq_true rfl) (Nat.le_of_ble_eq_true rfl) (Nat.le_of_ble_eq_true rfl) (Nat.le_of_ble_eq_true rfl) (t_M_around) ?_
    rintro v h' ⟨⟨n6, b7, rfl⟩, rfl⟩
    obtain ⟨a9, r8, k10, e11⟩ := I.get ho hE (12)
    have k10 : κ a9 = (38, 2) := k10
    obtain ⟨x13, r12⟩ := I.get k10 e11 ((nI e).toNatClampNeg)
    refine ft_run_ok k_M_seen 5 _ _ _ _ [.ref a9, .int (x13)] rfl ⟨I.K ho, r8, I.Kd k10 rfl, I.vi k10 (by omega) (by decide), r12, trivial⟩ ?_
    refine r_if k_M_seen rfl rfl (fun c14 => ?_) (fun c14 => ?_)
    · refine ft_run_ok k_M_seen 1 _ _ _ _ [] rfl trivial ?_
      exact r_ret (v := some (.int (Int32.ofInt (Int.negSucc 0)))) k_M_seen rfl trivial (Nat.le_of_ble_eq_true rfl) (Nat.le_of_ble_eq_true rfl) ⟨⟨_, rfl⟩, rfl⟩
    · obtain ⟨a18, r17, k19, e20⟩ := I.get ho hE (13)
      have k19 : κ a18 = (39, 2) := k19
      obtain ⟨n22, b23, r21⟩ := I.get k19 e20 ((nI e).toNatClampNeg)
      refine ft_run_ok k_M_seen 6 _ _ _ _ [.ref a18, .long (lN n22)] rfl ⟨I.K ho, r17, I.Kd k19 rfl, I.vi k19 (by omega) (by decide), r21, trivial⟩ ?_
      refine r_callS (as := [.long ((lN n22) - (lN n6))]) (r := []) k_M_seen rfl z_M_around rfl (Nat.le_of_ble_eq_true rfl) (Nat.le_of_ble_eq_true rfl) (Nat.le_of_ble_eq_true rfl) (Nat.le_of_ble_eq_true rfl) (t_M_around) ?_
      rintro v h' ⟨⟨n24, b25, rfl⟩, rfl⟩
      refine ft_run_ok k_M_seen 2 _ _ _ _ [] rfl trivial ?_
      refine r_if k_M_seen rfl rfl (fun c26 => ?_) (fun c26 => ?_)
      · obtain ⟨a29, r28, k30, e31⟩ := I.get ho hE (16)
        have k30 : κ a29 = (42, 512) := k30
        refine ft_run_ok k_M_seen 4 _ _ _ _ [.ref a29] rfl ⟨I.K ho, r28, trivial⟩ ?_
        refine r_callS (as := [.int (nI e), .long (lN n6)]) (r := [.ref a29]) k_M_seen rfl z_M_at rfl (Nat.le_of_ble_eq_true rfl) (Nat.le_of_ble_eq_true rfl) (Nat.le_of_ble_eq_true rfl) (Nat.le_of_ble_eq_true rfl) (t_M_at (e := e) rfl (by omega)) ?_
        rintro v h' ⟨⟨n32, b33, rfl⟩, rfl⟩
        obtain ⟨x35, r34⟩ := I.get k30 e31 ((nI n32).toNatClampNeg)
        refine ft_run_ok k_M_seen 1 _ _ _ _ [.int (x35)] rfl ⟨I.Kd k30 rfl, I.vi k30 (by omega) (by decide), r34, trivial⟩ ?_
        refine r_if k_M_seen rfl rfl (fun c36 => ?_) (fun c36 => ?_)
        · refine ft_run_ok k_M_seen 1 _ _ _ _ [] rfl trivial ?_
          exact r_ret (v := some (.int (nI 0))) k_M_seen rfl trivial (Nat.le_of_ble_eq_true rfl) (Nat.le_of_ble_eq_true rfl) ⟨⟨_, rfl⟩, rfl⟩
        · refine ft_run_ok k_M_seen 2 _ _ _ _ [] rfl trivial ?_
          exact r_ret (v := some (.int (nI 1))) k_M_seen rfl trivial (Nat.le_of_ble_eq_true rfl) (Nat.le_of_ble_eq_true rfl) ⟨⟨_, rfl⟩, rfl⟩
      · refine ft_run_ok k_M_seen 1 _ _ _ _ [] rfl trivial ?_
        exact r_ret (v := some (.int (Int32.ofInt (Int.negSucc 0)))) k_M_seen rfl trivial (Nat.le_of_ble_eq_true rfl) (Nat.le_of_ble_eq_true rfl) ⟨⟨_, rfl⟩, rfl⟩
  · have g40 := ft_eq0 (a := n1) (by omega) (Classical.not_not.mp c4)
    refine ft_run_ok k_M_seen 1 _ _ _ _ [] rfl trivial ?_
    exact r_ret (v := some (.int ((Int8.ofInt (Int.negSucc 100)).toInt32))) k_M_seen rfl trivial (Nat.le_of_ble_eq_true rfl) (Nat.le_of_ble_eq_true rfl) ⟨⟨_, rfl⟩, rfl⟩
set_option maxRecDepth 100000 in
theorem t_M_sent {o : Nat} {x : Int32} {m : Int64} (I : Iv D κ n E P h) (ho : κ o = (kd_M, 0)) (hE : ¬ E o) : sm D y_M_sent 0 (lv_args 0 [.ref o, .int x, .long m]) [] h 0 0 (fun v h' => (∃ x : Int32, v = some (.int x)) ∧ h' = h) := by
  refine ft_run_ok k_M_sent 1 _ _ _ _ [] rfl trivial ?_
  refine r_callS (as := [.int (x)]) (r := []) k_M_sent rfl z_M_isEnd rfl (Nat.le_of_ble_eq_true rfl) (Nat.le_of_ble_eq_true rfl) (Nat.le_of_ble_eq_true rfl) (Nat.le_of_ble_eq_true rfl) (t_M_isEnd) ?_
  rintro v h' ⟨⟨n1, b2, rfl, m3⟩, rfl⟩
  refine r_if k_M_sent rfl rfl (fun c4 => ?_) (fun c4 => ?_)
  · have g5 := ft_ne0 (a := n1) c4
    obtain ⟨e, h_e, rfl⟩ := m3 (by omega)
    refine ft_run_ok k_M_sent 1 _ _ _ _ [] rfl trivial ?_
    refine r_callS (as := [.long (m)]) (r := []) k_M_sent rfl z_M_around rfl (Nat.le_of_ble_eq_true rfl) (Nat.le_of_ble_eq_true rfl) (Nat.le_of_ble_eq_true rfl) (Nat.le_of_ble_eq_true rfl) (t_M_around) ?_
    rintro v h' ⟨⟨n6, b7, rfl⟩, rfl⟩
    refine ft_run_ok k_M_sent 4 _ _ _ _ [] rfl trivial ?_
    refine r_callV (as := [.int (nI e), .long (lN n6)]) (a := o) (ci := 11) (r := []) k_M_sent rfl z_M_isOwn rfl (by decide) rfl (I.K ho) (Nat.le_of_ble_eq_true rfl) (Nat.le_of_ble_eq_true rfl) (Nat.le_of_ble_eq_true rfl) (Nat.le_of_ble_eq_true rfl) (t_M_isOwn I ho hE (e := e) rfl (by omega)) ?_
    rintro v h' ⟨⟨n8, b9, rfl⟩, rfl⟩
    refine r_if k_M_sent rfl rfl (fun c10 => ?_) (fun c10 => ?_)
    · have g11 := ft_eq0 (a := n8) (by omega) c10
      refine ft_run_ok k_M_sent 1 _ _ _ _ [] rfl trivial ?_
      exact r_ret (v := some (.int (Int32.ofInt (Int.negSucc 0)))) k_M_sent rfl trivial (Nat.le_of_ble_eq_true rfl) (Nat.le_of_ble_eq_true rfl) ⟨⟨_, rfl⟩, rfl⟩
    · have g12 := ft_ne0 (a := n8) c10
      obtain ⟨a14, r13, k15, e16⟩ := I.get ho hE (17)
      have k15 : κ a14 = (43, 512) := k15
      refine ft_run_ok k_M_sent 4 _ _ _ _ [.ref a14] rfl ⟨I.K ho, r13, trivial⟩ ?_
      refine r_callS (as := [.int (nI e), .long (lN n6)]) (r := [.ref a14]) k_M_sent rfl z_M_at rfl (Nat.le_of_ble_eq_true rfl) (Nat.le_of_ble_eq_true rfl) (Nat.le_of_ble_eq_true rfl) (Nat.le_of_ble_eq_true rfl) (t_M_at (e := e) rfl (by omega)) ?_
      rintro v h' ⟨⟨n17, b18, rfl⟩, rfl⟩
      obtain ⟨x20, r19⟩ := I.get k15 e16 ((nI n17).toNatClampNeg)
      refine ft_run_ok k_M_sent 2 _ _ _ _ [.int (x20)] rfl ⟨I.Kd k15 rfl, I.vi k15 (by omega) (by decide), r19, trivial⟩ ?_
      exact r_ret (v := some (.int (x20))) k_M_sent rfl trivial (Nat.le_of_ble_eq_true rfl) (Nat.le_of_ble_eq_true rfl) ⟨⟨_, rfl⟩, rfl⟩
  · have g21 := ft_eq0 (a := n1) (by omega) (Classical.not_not.mp c4)
    refine ft_run_ok k_M_sent 1 _ _ _ _ [] rfl trivial ?_
    exact r_ret (v := some (.int ((Int8.ofInt (Int.negSucc 100)).toInt32))) k_M_sent rfl trivial (Nat.le_of_ble_eq_true rfl) (Nat.le_of_ble_eq_true rfl) ⟨⟨_, rfl⟩, rfl⟩
set_option maxRecDepth 100000 in
theorem t_M_count {o : Nat} {x : Int32} {w : Int32} (I : Iv D κ n E P h) (ho : κ o = (kd_M, 0)) (hE : ¬ E o) : sm D y_M_count 0 (lv_args 0 [.ref o, .int x, .int w]) [] h 0 0 (fun v h' => (∃ x : Int32, v = some (.int x)) ∧ h' = h) := by
  refine ft_run_ok k_M_count 1 _ _ _ _ [] rfl trivial ?_
  refine r_callS (as := [.int (x)]) (r := []) k_M_count rfl z_M_isEnd rfl (Nat.le_of_ble_eq_true rfl) (Nat.le_of_ble_eq_true rfl) (Nat.le_of_ble_eq_true rfl) (Nat.le_of_ble_eq_true rfl) (t_M_isEnd) ?_
  rintro v h' ⟨⟨n1, b2, rfl, m3⟩, rfl⟩
  refine r_if k_M_count rfl rfl (fun c4 => ?_) (fun c4 => ?_)
  · have g5 := ft_ne0 (a := n1) c4
    obtain ⟨e, h_e, rfl⟩ := m3 (by omega)
    refine ft_run_ok k_M_count 1 _ _ _ _ [] rfl trivial ?_
    by_cases sw : (w).toInt < 0 ∨ 15 < (w).toInt
    · refine r_swOut k_M_count rfl sw rfl ?_
      refine ft_run_ok k_M_count 1 _ _ _ _ [] rfl trivial ?_
      exact r_ret (v := some (.int ((Int8.ofInt (Int.negSucc 101)).toInt32))) k_M_count rfl trivial (Nat.le_of_ble_eq_true rfl) (Nat.le_of_ble_eq_true rfl) ⟨⟨_, rfl⟩, rfl⟩
    · have s1 : ¬ (w).toInt < 0 := fun q => sw (Or.inl q)
      have s2 : ¬ 15 < (w).toInt := fun q => sw (Or.inr q)
      rcases (show (w).toInt = 0 ∨ (w).toInt = 1 ∨ (w).toInt = 2 ∨ (w).toInt = 3 ∨ (w).toInt = 4 ∨ (w).toInt = 5 ∨ (w).toInt = 6 ∨ (w).toInt = 7 ∨ (w).toInt = 8 ∨ (w).toInt = 9 ∨ (w).toInt = 10 ∨ (w).toInt = 11 ∨ (w).toInt = 12 ∨ (w).toInt = 13 ∨ (w).toInt = 14 ∨ (w).toInt = 15 by omega) with sv | sv | sv | sv | sv | sv | sv | sv | sv | sv | sv | sv | sv | sv | sv | sv
      · refine r_swIn k_M_count rfl s1 s2 (by rw [sv]; rfl) rfl ?_
        refine ft_run_ok k_M_count 2 _ _ _ _ [] rfl trivial ?_
        refine r_callV (as := [.int (nI e)]) (a := o) (ci := 11) (r := []) k_M_count rfl z_M_pipe rfl (by decide) rfl (I.K ho) (Nat.le_of_ble_eq_true rfl) (Nat.le_of_ble_eq_true rfl) (Nat.le_of_ble_eq_true rfl) (Nat.le_of_ble_eq_true rfl) (t_M_pipe I ho hE (e := e) rfl (by omega)) ?_
        rintro v h' ⟨⟨x6, rfl⟩, rfl⟩
        exact r_ret (v := some (.int (x6))) k_M_count rfl trivial (Nat.le_of_ble_eq_true rfl) (Nat.le_of_ble_eq_true rfl) ⟨⟨_, rfl⟩, rfl⟩
      · refine r_swIn k_M_count rfl s1 s2 (by rw [sv]; rfl) rfl ?_
        obtain ⟨a8, r7, k9, e10⟩ := I.get ho hE (34)
        have k9 : κ a8 = (60, 2) := k9
        obtain ⟨x12, r11⟩ := I.get k9 e10 ((nI e).toNatClampNeg)
        refine ft_run_ok k_M_count 4 _ _ _ _ [.ref a8, .int (x12)] rfl ⟨I.K ho, r7, I.Kd k9 rfl, I.vi k9 (by omega) (by decide), r11, trivial⟩ ?_
        exact r_ret (v := some (.int (x12))) k_M_count rfl trivial (Nat.le_of_ble_eq_true rfl) (Nat.le_of_ble_eq_true rfl) ⟨⟨_, rfl⟩, rfl⟩
      · refine r_swIn k_M_count rfl s1 s2 (by rw [sv]; rfl) rfl ?_
        obtain ⟨a14, r13, k15, e16⟩ := I.get ho hE (35)
        have k15 : κ a14 = (61, 2) := k15
        obtain ⟨x18, r17⟩ := I.get k15 e16 ((nI e).toNatClampNeg)
        refine ft_run_ok k_M_count 4 _ _ _ _ [.ref a14, .int (x18)] rfl ⟨I.K ho, r13, I.Kd k15 rfl, I.vi k15 (by omega) (by decide), r17, trivial⟩ ?_
        exact r_ret (v := some (.int (x18))) k_M_count rfl trivial (Nat.le_of_ble_eq_true rfl) (Nat.le_of_ble_eq_true rfl) ⟨⟨_, rfl⟩, rfl⟩
      · refine r_swIn k_M_count rfl s1 s2 (by rw [sv]; rfl) rfl ?_
        obtain ⟨a20, r19, k21, e22⟩ := I.get ho hE (36)
        have k21 : κ a20 = (62, 2) := k21
        obtain ⟨x24, r23⟩ := I.get k21 e22 ((nI e).toNatClampNeg)
        refine ft_run_ok k_M_count 4 _ _ _ _ [.ref a20, .int (x24)] rfl ⟨I.K ho, r19, I.Kd k21 rfl, I.vi k21 (by omega) (by decide), r23, trivial⟩ ?_
        exact r_ret (v := some (.int (x24))) k_M_count rfl trivial (Nat.le_of_ble_eq_true rfl) (Nat.le_of_ble_eq_true rfl) ⟨⟨_, rfl⟩, rfl⟩
      · refine r_swIn k_M_count rfl s1 s2 (by rw [sv]; rfl) rfl ?_
        obtain ⟨a26, r25, k27, e28⟩ := I.get ho hE (37)
        have k27 : κ a26 = (63, 2) := k27
        obtain ⟨x30, r29⟩ := I.get k27 e28 ((nI e).toNatClampNeg)
        refine ft_run_ok k_M_count 4 _ _ _ _ [.ref a26, .int (x30)] rfl ⟨I.K ho, r25, I.Kd k27 rfl, I.vi k27 (by omega) (by decide), r29, trivial⟩ ?_
        exact r_ret (v := some (.int (x30))) k_M_count rfl trivial (Nat.le_of_ble_eq_true rfl) (Nat.le_of_ble_eq_true rfl) ⟨⟨_, rfl⟩, rfl⟩
      · refine r_swIn k_M_count rfl s1 s2 (by rw [sv]; rfl) rfl ?_
        obtain ⟨a32, r31, k33, e34⟩ := I.get ho hE (28)
        have k33 : κ a32 = (54, 2) := k33
        have r35 := I.ts k33 e34 (show e < 2 by omega)
        have b36 := I.tsb (show e < 2 by omega)
        refine ft_run_ok k_M_count 4 _ _ _ _ [.ref a32, .int (nI (P (8 + e)))] rfl ⟨I.K ho, r31, I.Kd k33 rfl, I.vi k33 (by omega) (by decide), r35, trivial⟩ ?_
        exact r_ret (v := some (.int (nI (P (8 + e))))) k_M_count rfl trivial (Nat.le_of_ble_eq_true rfl) (Nat.le_of_ble_eq_true rfl) ⟨⟨_, rfl⟩, rfl⟩
      · refine r_swIn k_M_count rfl s1 s2 (by rw [sv]; rfl) rfl ?_
        obtain ⟨a38, r37, k39, e40⟩ := I.get ho hE (49)
        have k39 : κ a38 = (75, 2) := k39
        obtain ⟨x42, r41⟩ := I.get k39 e40 ((nI e).toNatClampNeg)
        refine ft_run_ok k_M_count 4 _ _ _ _ [.ref a38, .int (x42)] rfl ⟨I.K ho, r37, I.Kd k39 rfl, I.vi k39 (by omega) (by decide), r41, trivial⟩ ?_
        exact r_ret (v := some (.int (x42))) k_M_count rfl trivial (Nat.le_of_ble_eq_true rfl) (Nat.le_of_ble_eq_true rfl) ⟨⟨_, rfl⟩, rfl⟩
      · refine r_swIn k_M_count rfl s1 s2 (by rw [sv]; rfl) rfl ?_
        obtain ⟨a44, r43, k45, e46⟩ := I.get ho hE (50)
        have k45 : κ a44 = (76, 2) := k45
        obtain ⟨x48, r47⟩ := I.get k45 e46 ((nI e).toNatClampNeg)
        refine ft_run_ok k_M_count 4 _ _ _ _ [.ref a44, .int (x48)] rfl ⟨I.K ho, r43, I.Kd k45 rfl, I.vi k45 (by omega) (by decide), r47, trivial⟩ ?_
        exact r_ret (v := some (.int (x48))) k_M_count rfl trivial (Nat.le_of_ble_eq_true rfl) (Nat.le_of_ble_eq_true rfl) ⟨⟨_, rfl⟩, rfl⟩
      · refine r_swIn k_M_count rfl s1 s2 (by rw [sv]; rfl) rfl ?_
        obtain ⟨a50, r49, k51, e52⟩ := I.get ho hE (51)
        have k51 : κ a50 = (77, 2) := k51
        obtain ⟨x54, r53⟩ := I.get k51 e52 ((nI e).toNatClampNeg)
        refine ft_run_ok k_M_count 4 _ _ _ _ [.ref a50, .int (x54)] rfl ⟨I.K ho, r49, I.Kd k51 rfl, I.vi k51 (by omega) (by decide), r53, trivial⟩ ?_
        exact r_ret (v := some (.int (x54))) k_M_count rfl trivial (Nat.le_of_ble_eq_true rfl) (Nat.le_of_ble_eq_true rfl) ⟨⟨_, rfl⟩, rfl⟩
      · refine r_swIn k_M_count rfl s1 s2 (by rw [sv]; rfl) rfl ?_
        obtain ⟨a56, r55, k57, e58⟩ := I.get ho hE (52)
        have k57 : κ a56 = (78, 2) := k57
        obtain ⟨x60, r59⟩ := I.get k57 e58 ((nI e).toNatClampNeg)
        refine ft_run_ok k_M_count 4 _ _ _ _ [.ref a56, .int (x60)] rfl ⟨I.K ho, r55, I.Kd k57 rfl, I.vi k57 (by omega) (by decide), r59, trivial⟩ ?_
        exact r_ret (v := some (.int (x60))) k_M_count rfl trivial (Nat.le_of_ble_eq_true rfl) (Nat.le_of_ble_eq_true rfl) ⟨⟨_, rfl⟩, rfl⟩
      · refine r_swIn k_M_count rfl s1 s2 (by rw [sv]; rfl) rfl ?_
        obtain ⟨a62, r61, k63, e64⟩ := I.get ho hE (53)
        have k63 : κ a62 = (79, 2) := k63
        obtain ⟨x66, r65⟩ := I.get k63 e64 ((nI e).toNatClampNeg)
        refine ft_run_ok k_M_count 4 _ _ _ _ [.ref a62, .int (x66)] rfl ⟨I.K ho, r61, I.Kd k63 rfl, I.vi k63 (by omega) (by decide), r65, trivial⟩ ?_
        exact r_ret (v := some (.int (x66))) k_M_count rfl trivial (Nat.le_of_ble_eq_true rfl) (Nat.le_of_ble_eq_true rfl) ⟨⟨_, rfl⟩, rfl⟩
      · refine r_swIn k_M_count rfl s1 s2 (by rw [sv]; rfl) rfl ?_
        obtain ⟨a68, r67, k69, e70⟩ := I.get ho hE (31)
        have k69 : κ a68 = (57, 2) := k69
        obtain ⟨n72, b73, r71⟩ := I.get k69 e70 ((nI e).toNatClampNeg)
        have b73 : n72 ≤ P 2 := b73
        refine ft_run_ok k_M_count 4 _ _ _ _ [.ref a68, .int (nI n72)] rfl ⟨I.K ho, r67, I.Kd k69 rfl, I.vi k69 (by omega) (by decide), r71, trivial⟩ ?_
        exact r_ret (v := some (.int (nI n72))) k_M_count rfl trivial (Nat.le_of_ble_eq_true rfl) (Nat.le_of_ble_eq_true rfl) ⟨⟨_, rfl⟩, rfl⟩
      · refine r_swIn k_M_count rfl s1 s2 (by rw [sv]; rfl) rfl ?_
        refine ft_run_ok k_M_count 2 _ _ _ _ [] rfl trivial ?_
        refine r_callV (as := [.int (nI e)]) (a := o) (ci := 11) (r := []) k_M_count rfl z_M_changes rfl (by decide) rfl (I.K ho) (Nat.le_of_ble_eq_true rfl) (Nat.le_of_ble_eq_true rfl) (Nat.le_of_ble_eq_true rfl) (Nat.le_of_ble_eq_true rfl) (t_M_changes I ho hE (e := e) rfl (by omega)) ?_
        rintro v h' ⟨⟨x74, rfl⟩, rfl⟩
        exact r_ret (v := some (.int (x74))) k_M_count rfl trivial (Nat.le_of_ble_eq_true rfl) (Nat.le_of_ble_eq_true rfl) ⟨⟨_, rfl⟩, rfl⟩
      · refine r_swIn k_M_count rfl s1 s2 (by rw [sv]; rfl) rfl ?_
        obtain ⟨a76, r75, k77, e78⟩ := I.get ho hE (26)
        have k77 : κ a76 = (52, 2) := k77
        obtain ⟨n80, b81, r79⟩ := I.get k77 e78 ((nI e).toNatClampNeg)
        have b81 : n80 ≤ 12 := b81
        refine ft_run_ok k_M_count 4 _ _ _ _ [.ref a76, .int (nI n80)] rfl ⟨I.K ho, r75, I.Kd k77 rfl, I.vi k77 (by omega) (by decide), r79, trivial⟩ ?_
        exact r_ret (v := some (.int (nI n80))) k_M_count rfl trivial (Nat.le_of_ble_eq_true rfl) (Nat.le_of_ble_eq_true rfl) ⟨⟨_, rfl⟩, rfl⟩
      · refine r_swIn k_M_count rfl s1 s2 (by rw [sv]; rfl) rfl ?_
        obtain ⟨a83, r82, k84, e85⟩ := I.get ho hE (54)
        have k84 : κ a83 = (80, 2) := k84
        obtain ⟨x87, r86⟩ := I.get k84 e85 ((nI e).toNatClampNeg)
        refine ft_run_ok k_M_count 4 _ _ _ _ [.ref a83, .int (x87)] rfl ⟨I.K ho, r82, I.Kd k84 rfl, I.vi k84 (by omega) (by decide), r86, trivial⟩ ?_
        exact r_ret (v := some (.int (x87))) k_M_count rfl trivial (Nat.le_of_ble_eq_true rfl) (Nat.le_of_ble_eq_true rfl) ⟨⟨_, rfl⟩, rfl⟩
      · refine r_swIn k_M_count rfl s1 s2 (by rw [sv]; rfl) rfl ?_
        obtain ⟨a89, r88, k90, e91⟩ := I.get ho hE (55)
        have k90 : κ a89 = (81, 2) := k90
        obtain ⟨x93, r92⟩ := I.get k90 e91 ((nI e).toNatClampNeg)
        refine ft_run_ok k_M_count 4 _ _ _ _ [.ref a89, .int (x93)] rfl ⟨I.K ho, r88, I.Kd k90 rfl, I.vi k90 (by omega) (by decide), r92, trivial⟩ ?_
        exact r_ret (v := some (.int (x93))) k_M_count rfl trivial (Nat.le_of_ble_eq_true rfl) (Nat.le_of_ble_eq_true rfl) ⟨⟨_, rfl⟩, rfl⟩
  · have g94 := ft_eq0 (a := n1) (by omega) (Classical.not_not.mp c4)
    refine ft_run_ok k_M_count 1 _ _ _ _ [] rfl trivial ?_
    exact r_ret (v := some (.int ((Int8.ofInt (Int.negSucc 100)).toInt32))) k_M_count rfl trivial (Nat.le_of_ble_eq_true rfl) (Nat.le_of_ble_eq_true rfl) ⟨⟨_, rfl⟩, rfl⟩
set_option maxRecDepth 100000 in
theorem t_M_isList {o : Nat} {f : Int32} (I : Iv D κ n E P h) (ho : κ o = (kd_M, 0)) (hE : ¬ E o) : sm D y_M_isList 0 (lv_args 0 [.ref o, .int f]) [] h 0 0 (fun v h' => (∃ b : Nat, b ≤ 1 ∧ v = some (.int (nI b))) ∧ h' = h) := by
  have L24 : ∀ (t24 : Nat) (k : Nat), k ≤ 3 → 4 - k < t24 → sm D y_M_isList 24 [(0, .ref o), (1, .int (f)), (2, .int (nI k))] [] h 0 0 (fun v h' => (∃ b : Nat, b ≤ 1 ∧ v = some (.int (nI b))) ∧ h' = h) := by
    intro t24
    induction t24 with
    | zero => intro k f24_0 ht24; exact absurd ht24 (Nat.not_lt_zero _)
    | succ t24 ih24 =>
      intro k f24_0 ht24
      have L49 : ∀ (t49 : Nat) (j : Nat), j ≤ k ∧ k ≤ 2 → k - j < t49 → sm D y_M_isList 49 [(0, .ref o), (1, .int (f)), (2, .int (nI k)), (3, .int (nI j))] [] h 0 0 (fun v h' => (∃ b : Nat, b ≤ 1 ∧ v = some (.int (nI b))) ∧ h' = h) := by
        intro t49
        induction t49 with
        | zero => intro j f49_0 ht49; exact absurd ht49 (Nat.not_lt_zero _)
        | succ t49 ih49 =>
          intro j f49_0 ht49
          refine ft_run_ok k_M_isList 2 _ _ _ _ [] rfl trivial ?_
          refine r_icmp k_M_isList rfl rfl (fun c1 => ?_) (fun c1 => ?_)
          · have g2 := ft_le (a := k) (b := j) (by omega) (by omega) c1
            refine ft_run_ok k_M_isList 2 _ _ _ _ [] rfl trivial ?_
            rw [show ((nI k) + nI 1) = nI (k + 1) from by simp only [nI_add, pk_mul]]
            exact sm_sub [1, 2, 0] rfl (ih24 (k + 1) (by omega) (by omega))
          · have g3 := ft_nle (a := j) (b := k) (by omega) (by omega) c1
            obtain ⟨a5, r4, k6, e7⟩ := I.get ho hE (56)
            have k6 : κ a5 = (82, 4) := k6
            obtain ⟨x9, r8⟩ := I.get k6 e7 ((nI j).toNatClampNeg)
            obtain ⟨a11, r10, k12, e13⟩ := I.get ho hE (56)
            have k12 : κ a11 = (82, 4) := k12
            obtain ⟨x15, r14⟩ := I.get k12 e13 ((nI k).toNatClampNeg)
            refine ft_run_ok k_M_isList 8 _ _ _ _ [.ref a5, .int (x9), .ref a11, .int (x15)] rfl ⟨I.K ho, r4, I.Kd k6 rfl, I.vi k6 (by omega) (by decide), r8, I.K ho, r10, I.Kd k12 rfl, I.vi k12 (by omega) (by decide), r14, trivial⟩ ?_
            refine r_icmp k_M_isList rfl rfl (fun c16 => ?_) (fun c16 => ?_)
            · refine ft_run_ok k_M_isList 2 _ _ _ _ [] rfl trivial ?_
              rw [show ((nI j) + nI 1) = nI (j + 1) from by simp only [nI_add, pk_mul]]
              exact sm_sub [1, 2, 3, 0] rfl (ih49 (j + 1) (by omega) (by omega))
            · refine ft_run_ok k_M_isList 1 _ _ _ _ [] rfl trivial ?_
              exact r_ret (v := some (.int (nI 0))) k_M_isList rfl rfl (Nat.le_of_ble_eq_true rfl) (Nat.le_of_ble_eq_true rfl) ⟨⟨0, by omega, rfl⟩, rfl⟩
      obtain ⟨n20, b21, r19⟩ := I.get ho hE (57)
      have b21 : n20 ≤ 3 := b21
      refine ft_run_ok k_M_isList 3 _ _ _ _ [.int (nI n20)] rfl ⟨I.K ho, r19, trivial⟩ ?_
      refine r_icmp k_M_isList rfl rfl (fun c22 => ?_) (fun c22 => ?_)
      · have g23 := ft_le (a := n20) (b := k) (by omega) (by omega) c22
        refine ft_run_ok k_M_isList 1 _ _ _ _ [] rfl trivial ?_
        exact r_ret (v := some (.int (nI 1))) k_M_isList rfl rfl (Nat.le_of_ble_eq_true rfl) (Nat.le_of_ble_eq_true rfl) ⟨⟨1, by omega, rfl⟩, rfl⟩
      · have g24 := ft_nle (a := k) (b := n20) (by omega) (by omega) c22
        obtain ⟨a26, r25, k27, e28⟩ := I.get ho hE (56)
        have k27 : κ a26 = (82, 4) := k27
        obtain ⟨x30, r29⟩ := I.get k27 e28 ((nI k).toNatClampNeg)
        refine ft_run_ok k_M_isList 5 _ _ _ _ [.ref a26, .int (x30)] rfl ⟨I.K ho, r25, I.Kd k27 rfl, I.vi k27 (by omega) (by decide), r29, trivial⟩ ?_
        refine r_callS (as := [.int (f), .int (x30)]) (r := []) k_M_isList rfl z_M_mayBe rfl (Nat.le_of_ble_eq_true rfl) (Nat.le_of_ble_eq_true rfl) (Nat.le_of_ble_eq_true rfl) (Nat.le_of_ble_eq_true rfl) (t_M_mayBe) ?_
        rintro v h' ⟨⟨n31, b32, rfl⟩, rfl⟩
        refine r_if k_M_isList rfl rfl (fun c33 => ?_) (fun c33 => ?_)
        · have g34 := ft_ne0 (a := n31) c33
          refine ft_run_ok k_M_isList 2 _ _ _ _ [] rfl trivial ?_
          exact sm_sub [1, 2, 3, 0] rfl (L49 _ (0) (by omega) (Nat.lt_succ_self _))
        · have g35 := ft_eq0 (a := n31) (by omega) (Classical.not_not.mp c33)
          refine ft_run_ok k_M_isList 1 _ _ _ _ [] rfl trivial ?_
          exact r_ret (v := some (.int (nI 0))) k_M_isList rfl rfl (Nat.le_of_ble_eq_true rfl) (Nat.le_of_ble_eq_true rfl) ⟨⟨0, by omega, rfl⟩, rfl⟩
  obtain ⟨n37, b38, r36⟩ := I.get ho hE (57)
  have b38 : n37 ≤ 3 := b38
  refine ft_run_ok k_M_isList 2 _ _ _ _ [.int (nI n37)] rfl ⟨I.K ho, r36, trivial⟩ ?_
  refine r_if k_M_isList rfl rfl (fun c39 => ?_) (fun c39 => ?_)
  · have g40 := ft_eq0 (a := n37) (by omega) c39
    refine ft_run_ok k_M_isList 1 _ _ _ _ [] rfl trivial ?_
    exact r_ret (v := some (.int (nI 0))) k_M_isList rfl rfl (Nat.le_of_ble_eq_true rfl) (Nat.le_of_ble_eq_true rfl) ⟨⟨0, by omega, rfl⟩, rfl⟩
  · have g41 := ft_ne0 (a := n37) c39
    refine ft_run_ok k_M_isList 2 _ _ _ _ [] rfl trivial ?_
    refine r_icmp k_M_isList rfl rfl (fun c42 => ?_) (fun c42 => ?_)
    · refine ft_run_ok k_M_isList 2 _ _ _ _ [] rfl trivial ?_
      exact sm_sub [1, 2, 0] rfl (L24 _ (0) (by omega) (Nat.lt_succ_self _))
    · obtain ⟨n46, b47, r45⟩ := I.get ho hE (57)
      have b47 : n46 ≤ 3 := b47
      refine ft_run_ok k_M_isList 3 _ _ _ _ [.int (nI n46)] rfl ⟨I.K ho, r45, trivial⟩ ?_
      refine r_icmp k_M_isList rfl rfl (fun c48 => ?_) (fun c48 => ?_)
      · have g49 := ft_le (a := n46) (b := 1) (by omega) (by omega) c48
        refine ft_run_ok k_M_isList 2 _ _ _ _ [] rfl trivial ?_
        exact sm_sub [1, 2, 0] rfl (L24 _ (0) (by omega) (Nat.lt_succ_self _))
      · have g50 := ft_nle (a := 1) (b := n46) (by omega) (by omega) c48
        refine ft_run_ok k_M_isList 1 _ _ _ _ [] rfl trivial ?_
        exact r_ret (v := some (.int (nI 0))) k_M_isList rfl rfl (Nat.le_of_ble_eq_true rfl) (Nat.le_of_ble_eq_true rfl) ⟨⟨0, by omega, rfl⟩, rfl⟩
set_option maxRecDepth 100000 in
theorem t_M_reconciled {o : Nat} {e : Nat} {x_e : Int32} {k : Nat} {x_k : Int32} (I : Iv D κ n E P h) (ho : κ o = (kd_M, 0)) (hE : ¬ E o) (q_e : x_e = nI e) (h_e : e < 2) (q_k : x_k = nI k) (h_k : k < 20) : sm D y_M_reconciled 0 (lv_args 0 [.ref o, .int x_e, .int x_k]) [] h 0 0 (fun v h' => (∃ x : Int32, v = some (.int x)) ∧ h' = h) := by
  subst q_e
  subst q_k
  have L7 : ∀ (t7 : Nat) (j : Nat), j ≤ 3 → 4 - j < t7 → sm D y_M_reconciled 7 [(0, .ref o), (2, .int (nI k)), (3, .int (nI j))] [] h 0 0 (fun v h' => (∃ x : Int32, v = some (.int x)) ∧ h' = h) := by
    intro t7
    induction t7 with
    | zero => intro j f7_0 ht7; exact absurd ht7 (Nat.not_lt_zero _)
    | succ t7 ih7 =>
      intro j f7_0 ht7
      obtain ⟨a2, r1, k3, e4⟩ := I.get ho hE (21)
      have k3 : κ a2 = (47, 20) := k3
      obtain ⟨n6, b7, r5⟩ := I.get k3 e4 ((nI k).toNatClampNeg)
      have b7 : n6 ≤ 3 := b7
      refine ft_run_ok k_M_reconciled 5 _ _ _ _ [.ref a2, .int (nI n6)] rfl ⟨I.K ho, r1, I.Kd k3 rfl, I.vi k3 (by omega) (by decide), r5, trivial⟩ ?_
      refine r_icmp k_M_reconciled rfl rfl (fun c8 => ?_) (fun c8 => ?_)
      · have g9 := ft_le (a := n6) (b := j) (by omega) (by omega) c8
        obtain ⟨a11, r10, k12, e13⟩ := I.get ho hE (20)
        have k12 : κ a11 = (46, 20) := k12
        obtain ⟨x15, r14⟩ := I.get k12 e13 ((nI k).toNatClampNeg)
        refine ft_run_ok k_M_reconciled 5 _ _ _ _ [.ref a11, .int (x15)] rfl ⟨I.K ho, r10, I.Kd k12 rfl, I.vi k12 (by omega) (by decide), r14, trivial⟩ ?_
        exact r_ret (v := some (.int (x15))) k_M_reconciled rfl trivial (Nat.le_of_ble_eq_true rfl) (Nat.le_of_ble_eq_true rfl) ⟨⟨_, rfl⟩, rfl⟩
      · have g16 := ft_nle (a := j) (b := n6) (by omega) (by omega) c8
        obtain ⟨a18, r17, k19, e20⟩ := I.get ho hE (22)
        have k19 : κ a18 = (48, 60) := k19
        obtain ⟨x22, r21⟩ := I.get k19 e20 ((((nI 3) * (nI k)) + (nI j)).toNatClampNeg)
        refine ft_run_ok k_M_reconciled 9 _ _ _ _ [.ref a18, .int (x22)] rfl ⟨I.K ho, r17, I.Kd k19 rfl, (by simp only [nI_add, pk_mul]; exact I.vi k19 (by omega) (by decide)), r21, trivial⟩ ?_
        refine r_callV (as := [.int (x22)]) (a := o) (ci := 11) (r := []) k_M_reconciled rfl z_M_hasTold rfl (by decide) rfl (I.K ho) (Nat.le_of_ble_eq_true rfl) (Nat.le_of_ble_eq_true rfl) (Nat.le_of_ble_eq_true rfl) (Nat.le_of_ble_eq_true rfl) (t_M_hasTold I ho hE) ?_
        rintro v h' ⟨⟨n23, b24, rfl⟩, rfl⟩
        refine r_if k_M_reconciled rfl rfl (fun c25 => ?_) (fun c25 => ?_)
        · have g26 := ft_eq0 (a := n23) (by omega) c25
          refine ft_run_ok k_M_reconciled 2 _ _ _ _ [] rfl trivial ?_
          rw [show ((nI j) + nI 1) = nI (j + 1) from by simp only [nI_add, pk_mul]]
          exact sm_sub [1, 2, 0] rfl (ih7 (j + 1) (by omega) (by omega))
        · have g27 := ft_ne0 (a := n23) c25
          obtain ⟨a29, r28, k30, e31⟩ := I.get ho hE (22)
          have k30 : κ a29 = (48, 60) := k30
          obtain ⟨x33, r32⟩ := I.get k30 e31 ((((nI 3) * (nI k)) + (nI j)).toNatClampNeg)
          refine ft_run_ok k_M_reconciled 8 _ _ _ _ [.ref a29, .int (x33)] rfl ⟨I.K ho, r28, I.Kd k30 rfl, (by simp only [nI_add, pk_mul]; exact I.vi k30 (by omega) (by decide)), r32, trivial⟩ ?_
          exact r_ret (v := some (.int (x33))) k_M_reconciled rfl trivial (Nat.le_of_ble_eq_true rfl) (Nat.le_of_ble_eq_true rfl) ⟨⟨_, rfl⟩, rfl⟩
  have L56 : ∀ (t56 : Nat) (j : Nat), j ≤ 3 → 4 - j < t56 → sm D y_M_reconciled 56 [(0, .ref o), (2, .int (nI k)), (3, .int (nI j))] [] h 0 0 (fun v h' => (∃ x : Int32, v = some (.int x)) ∧ h' = h) := by
    intro t56
    induction t56 with
    | zero => intro j f56_0 ht56; exact absurd ht56 (Nat.not_lt_zero _)
    | succ t56 ih56 =>
      intro j f56_0 ht56
      obtain ⟨n35, b36, r34⟩ := I.get ho hE (57)
      have b36 : n35 ≤ 3 := b36
      refine ft_run_ok k_M_reconciled 3 _ _ _ _ [.int (nI n35)] rfl ⟨I.K ho, r34, trivial⟩ ?_
      refine r_icmp k_M_reconciled rfl rfl (fun c37 => ?_) (fun c37 => ?_)
      · have g38 := ft_le (a := n35) (b := j) (by omega) (by omega) c37
        obtain ⟨a40, r39, k41, e42⟩ := I.get ho hE (20)
        have k41 : κ a40 = (46, 20) := k41
        obtain ⟨x44, r43⟩ := I.get k41 e42 ((nI k).toNatClampNeg)
        refine ft_run_ok k_M_reconciled 4 _ _ _ _ [.ref a40, .int (x44)] rfl ⟨I.K ho, r39, I.Kd k41 rfl, I.vi k41 (by omega) (by decide), r43, trivial⟩ ?_
        exact r_ret (v := some (.int (x44))) k_M_reconciled rfl trivial (Nat.le_of_ble_eq_true rfl) (Nat.le_of_ble_eq_true rfl) ⟨⟨_, rfl⟩, rfl⟩
      · have g45 := ft_nle (a := j) (b := n35) (by omega) (by omega) c37
        obtain ⟨a47, r46, k48, e49⟩ := I.get ho hE (56)
        have k48 : κ a47 = (82, 4) := k48
        obtain ⟨x51, r50⟩ := I.get k48 e49 ((nI j).toNatClampNeg)
        refine ft_run_ok k_M_reconciled 6 _ _ _ _ [.ref a47, .int (x51)] rfl ⟨I.K ho, r46, I.Kd k48 rfl, I.vi k48 (by omega) (by decide), r50, trivial⟩ ?_
        refine r_callV (as := [.int (nI k), .int (x51)]) (a := o) (ci := 11) (r := []) k_M_reconciled rfl z_M_hasOwn rfl (by decide) rfl (I.K ho) (Nat.le_of_ble_eq_true rfl) (Nat.le_of_ble_eq_true rfl) (Nat.le_of_ble_eq_true rfl) (Nat.le_of_ble_eq_true rfl) (t_M_hasOwn I ho hE (k := k) rfl (by omega)) ?_
        rintro v h' ⟨⟨n52, b53, rfl⟩, rfl⟩
        refine r_if k_M_reconciled rfl rfl (fun c54 => ?_) (fun c54 => ?_)
        · have g55 := ft_eq0 (a := n52) (by omega) c54
          refine ft_run_ok k_M_reconciled 2 _ _ _ _ [] rfl trivial ?_
          rw [show ((nI j) + nI 1) = nI (j + 1) from by simp only [nI_add, pk_mul]]
          exact sm_sub [1, 2, 0] rfl (ih56 (j + 1) (by omega) (by omega))
        · have g56 := ft_ne0 (a := n52) c54
          obtain ⟨a58, r57, k59, e60⟩ := I.get ho hE (56)
          have k59 : κ a58 = (82, 4) := k59
          obtain ⟨x62, r61⟩ := I.get k59 e60 ((nI j).toNatClampNeg)
          refine ft_run_ok k_M_reconciled 4 _ _ _ _ [.ref a58, .int (x62)] rfl ⟨I.K ho, r57, I.Kd k59 rfl, I.vi k59 (by omega) (by decide), r61, trivial⟩ ?_
          exact r_ret (v := some (.int (x62))) k_M_reconciled rfl trivial (Nat.le_of_ble_eq_true rfl) (Nat.le_of_ble_eq_true rfl) ⟨⟨_, rfl⟩, rfl⟩
  refine ft_run_ok k_M_reconciled 2 _ _ _ _ [] rfl trivial ?_
  refine r_icmp k_M_reconciled rfl rfl (fun c63 => ?_) (fun c63 => ?_)
  · have g64 := ft_neq (a := e) (b := 1) (by omega) (by omega) c63
    refine ft_run_ok k_M_reconciled 2 _ _ _ _ [] rfl trivial ?_
    exact sm_sub [1, 3, 0] rfl (L56 _ (0) (by omega) (Nat.lt_succ_self _))
  · have g65 := ft_nneq (a := e) (b := 1) (by omega) (by omega) c63
    refine ft_run_ok k_M_reconciled 2 _ _ _ _ [] rfl trivial ?_
    exact sm_sub [1, 3, 0] rfl (L7 _ (0) (by omega) (Nat.lt_succ_self _))
end M1
