section M3
variable {D : ft_G} {h : ft_H} {κ : Nat → Nat × Nat} {n : Nat} {E : Nat → Prop} {P : Nat → Nat}
set_option maxRecDepth 100000 in
theorem t_M_meet {o : Nat} {e : Nat} {x_e : Int32} {x : Nat} (I : Iv D κ n E P h) (ho : κ o = (kd_M, 0)) (hE : ¬ E o) (q_e : x_e = nI e) (h_e : e < 2) (h_x : x < 281474976710656) : sm D y_M_meet 0 (lv_args 0 [.ref o, .int x_e, .long (lN x)]) [] h 0 0 (fun v h' => (v = none) ∧ Iv D κ n E P h') := by
  subst q_e
  have L35 : ∀ (t35 : Nat) (k : Nat), 256 * e ≤ k ∧ k ≤ 256 * e + 256 → 256 * e + 256 - k < t35 → ∀ h : ft_H, Iv D κ n E P h → sm D y_M_meet 35 [(0, .ref o), (1, .int (nI e)), (2, .long (lN x)), (4, .int (nI k))] [] h 0 0 (fun v h' => (v = none) ∧ Iv D κ n E P h') := by
    intro t35
    induction t35 with
    | zero => intro k f35_0 ht35; exact absurd ht35 (Nat.not_lt_zero _)
    | succ t35 ih35 =>
      intro k f35_0 ht35 h I
      refine ft_run_ok k_M_meet 6 _ _ _ _ [] rfl trivial ?_
      refine r_icmp k_M_meet rfl rfl (fun c1 => ?_) (fun c1 => ?_)
      · have g2 := ft_le (a := ((256) * (e)) + (256)) (b := k) (by omega) (by omega) (by have q := c1; simp only [ft_cond2, nI_add, pk_mul] at q; exact q)
        obtain ⟨a4, r3, k5, e6⟩ := I.get ho hE (16)
        have k5 : κ a4 = (42, 512) := k5
        refine ft_run_ok k_M_meet 4 _ _ _ _ [.ref a4] rfl ⟨I.K ho, r3, trivial⟩ ?_
        refine r_callS (as := [.int (nI e), .long (lN x)]) (r := [.ref a4]) k_M_meet rfl z_M_at rfl (Nat.le_of_ble_eq_true rfl) (Nat.le_of_ble_eq_true rfl) (Nat.le_of_ble_eq_true rfl) (Nat.le_of_ble_eq_true rfl) (t_M_at (e := e) rfl (by omega)) ?_
        rintro v h' ⟨⟨n7, b8, rfl⟩, rfl⟩
        have I9 := I.set (k := (nI n7).toNatClampNeg) (v := narrow .boolean (.int (nI 1))) k5 ⟨_, rfl⟩
        refine ft_run_ok k_M_meet 2 _ _ _ _ [] rfl ⟨I.Kd k5 rfl, I.B k5, I.vi k5 (by omega) (by decide), trivial⟩ ?_
        exact r_ret (v := none) k_M_meet rfl trivial (Nat.le_of_ble_eq_true rfl) (Nat.le_of_ble_eq_true rfl) ⟨rfl, I9⟩
      · have g10 := ft_nle (a := k) (b := ((256) * (e)) + (256)) (by omega) (by omega) (by have q := c1; simp only [ft_cond2, nI_add, pk_mul] at q; exact q)
        obtain ⟨a12, r11, k13, e14⟩ := I.get ho hE (16)
        have k13 : κ a12 = (42, 512) := k13
        have I15 := I.set (k := (nI k).toNatClampNeg) (v := narrow .boolean (.int (nI 0))) k13 ⟨_, rfl⟩
        refine ft_run_ok k_M_meet 7 _ _ _ _ [.ref a12] rfl ⟨I.K ho, r11, I.Kd k13 rfl, I.B k13, I.vi k13 (by omega) (by decide), trivial⟩ ?_
        rw [show ((nI k) + nI 1) = nI (k + 1) from by simp only [nI_add, pk_mul]]
        exact sm_sub [1, 2, 3, 0] rfl (ih35 (k + 1) (by omega) (by omega) _ I15)
  obtain ⟨a17, r16, k18, e19⟩ := I.get ho hE (12)
  have k18 : κ a17 = (38, 2) := k18
  have I20 := I.set (k := (nI e).toNatClampNeg) (v := narrow .boolean (.int (nI 1))) k18 ⟨_, rfl⟩
  obtain ⟨a22, r21, k23, e24⟩ := I20.get ho hE (13)
  have k23 : κ a22 = (39, 2) := k23
  have I25 := I20.set (k := (nI e).toNatClampNeg) (v := .long (lN x)) k23 ⟨x, (show x < 281474976710656 by omega), rfl⟩
  obtain ⟨a27, r26, k28, e29⟩ := I25.get ho hE (14)
  have k28 : κ a27 = (40, 2) := k28
  have I30 := I25.set (k := (nI e).toNatClampNeg) (v := .long (lN x)) k28 ⟨_, rfl⟩
  obtain ⟨a32, r31, k33, e34⟩ := I30.get ho hE (15)
  have k33 : κ a32 = (41, 2) := k33
  have I35 := I30.set (k := (nI e).toNatClampNeg) (v := .long (lN x)) k33 ⟨_, rfl⟩
  refine ft_run_ok k_M_meet 24 _ _ _ _ [.ref a17, .ref a22, .ref a27, .ref a32] rfl ⟨I.K ho, r16, I.Kd k18 rfl, I.B k18, I.vi k18 (by omega) (by decide), I20.K ho, r21, I20.Kd k23 rfl, I20.B k23, I20.vi k23 (by omega) (by decide), I25.K ho, r26, I25.Kd k28 rfl, I25.B k28, I25.vi k28 (by omega) (by decide), I30.K ho, r31, I30.Kd k33 rfl, I30.B k33, I30.vi k33 (by omega) (by decide), trivial⟩ ?_
  rw [show ((nI 256) * (nI e)) = nI ((256) * (e)) from by simp only [nI_add, pk_mul]]
  exact sm_sub [1, 2, 3, 0] rfl (L35 _ ((256) * (e)) (by omega) (Nat.lt_succ_self _) _ I35)
set_option maxRecDepth 100000 in
theorem t_M_isGot {o : Nat} {e : Nat} {x_e : Int32} {x : Int64} (I : Iv D κ n E P h) (ho : κ o = (kd_M, 0)) (hE : ¬ E o) (q_e : x_e = nI e) (h_e : e < 2) : sm D y_M_isGot 0 (lv_args 0 [.ref o, .int x_e, .long x]) [] h 0 0 (fun v h' => (v = none) ∧ Iv D κ n E P h') := by
  subst q_e
  refine ft_run_ok k_M_isGot 2 _ _ _ _ [] rfl trivial ?_
  refine r_callS (as := [.int (nI e), .long (x)]) (r := []) k_M_isGot rfl z_M_at rfl (Nat.le_of_ble_eq_true rfl) (Nat.le_of_ble_eq_true rfl) (Nat.le_of_ble_eq_true rfl) (Nat.le_of_ble_eq_true rfl) (t_M_at (e := e) rfl (by omega)) ?_
  rintro v h' ⟨⟨n1, b2, rfl⟩, rfl⟩
  obtain ⟨a4, r3, k5, e6⟩ := I.get ho hE (18)
  have k5 : κ a4 = (44, 512) := k5
  obtain ⟨x8, r7⟩ := I.get k5 e6 ((nI n1).toNatClampNeg)
  refine ft_run_ok k_M_isGot 5 _ _ _ _ [.ref a4, .int (x8)] rfl ⟨I.K ho, r3, I.Kd k5 rfl, I.vi k5 (by omega) (by decide), r7, trivial⟩ ?_
  refine r_if k_M_isGot rfl rfl (fun c9 => ?_) (fun c9 => ?_)
  · obtain ⟨a12, r11, k13, e14⟩ := I.get ho hE (17)
    have k13 : κ a12 = (43, 512) := k13
    obtain ⟨x16, r15⟩ := I.get k13 e14 ((nI n1).toNatClampNeg)
    refine ft_run_ok k_M_isGot 5 _ _ _ _ [.ref a12, .int (x16)] rfl ⟨I.K ho, r11, I.Kd k13 rfl, I.vi k13 (by omega) (by decide), r15, trivial⟩ ?_
    refine r_icmp k_M_isGot rfl rfl (fun c17 => ?_) (fun c17 => ?_)
    · obtain ⟨a20, r19, k21, e22⟩ := I.get ho hE (17)
      have k21 : κ a20 = (43, 512) := k21
      obtain ⟨x24, r23⟩ := I.get k21 e22 ((nI n1).toNatClampNeg)
      refine ft_run_ok k_M_isGot 5 _ _ _ _ [.ref a20, .int (x24)] rfl ⟨I.K ho, r19, I.Kd k21 rfl, I.vi k21 (by omega) (by decide), r23, trivial⟩ ?_
      refine r_icmp k_M_isGot rfl rfl (fun c25 => ?_) (fun c25 => ?_)
      · exact r_ret (v := none) k_M_isGot rfl trivial (Nat.le_of_ble_eq_true rfl) (Nat.le_of_ble_eq_true rfl) ⟨rfl, I⟩
      · obtain ⟨a29, r28, k30, e31⟩ := I.get ho hE (17)
        have k30 : κ a29 = (43, 512) := k30
        have I32 := I.set (k := (nI n1).toNatClampNeg) (v := .int (nI 2)) k30 ⟨_, rfl⟩
        obtain ⟨a34, r33, k35, e36⟩ := I32.get ho hE (34)
        have k35 : κ a34 = (60, 2) := k35
        obtain ⟨x38, r37⟩ := I32.get k35 e36 ((nI e).toNatClampNeg)
        obtain ⟨a40, r39, k41, e42⟩ := I32.get ho hE (35)
        have k41 : κ a40 = (61, 2) := k41
        obtain ⟨x44, r43⟩ := I32.get k41 e42 ((nI e).toNatClampNeg)
        refine ft_run_ok k_M_isGot 13 _ _ _ _ [.ref a29, .ref a34, .int (x38), .ref a40, .int (x44)] rfl ⟨I.K ho, r28, I.Kd k30 rfl, I.B k30, I.vi k30 (by omega) (by decide), I32.K ho, r33, I32.Kd k35 rfl, I32.vi k35 (by omega) (by decide), r37, I32.K ho, r39, I32.Kd k41 rfl, I32.vi k41 (by omega) (by decide), r43, trivial⟩ ?_
        refine r_icmp k_M_isGot rfl rfl (fun c45 => ?_) (fun c45 => ?_)
        · obtain ⟨a48, r47, k49, e50⟩ := I32.get ho hE (37)
          have k49 : κ a48 = (63, 2) := k49
          obtain ⟨x52, r51⟩ := I32.get k49 e50 ((nI e).toNatClampNeg)
          have I53 := I32.set (k := (nI e).toNatClampNeg) (v := .int ((x52) + (nI 1))) k49 ⟨_, rfl⟩
          obtain ⟨a55, r54, k56, e57⟩ := I53.get ho hE (37)
          have k56 : κ a55 = (63, 2) := k56
          obtain ⟨x59, r58⟩ := I53.get k56 e57 ((nI e).toNatClampNeg)
          obtain ⟨a61, r60, k62, e63⟩ := I53.get ho hE (34)
          have k62 : κ a61 = (60, 2) := k62
          obtain ⟨x65, r64⟩ := I53.get k62 e63 ((nI e).toNatClampNeg)
          refine ft_run_ok k_M_isGot 16 _ _ _ _ [.ref a48, .int (x52), .ref a55, .int (x59), .ref a61, .int (x65)] rfl ⟨I32.K ho, r47, I32.Kd k49 rfl, I32.vi k49 (by omega) (by decide), r51, I32.Kd k49 rfl, I32.B k49, I32.vi k49 (by omega) (by decide), I53.K ho, r54, I53.Kd k56 rfl, I53.vi k56 (by omega) (by decide), r58, I53.K ho, r60, I53.Kd k62 rfl, I53.vi k62 (by omega) (by decide), r64, trivial⟩ ?_
          refine r_icmp k_M_isGot rfl rfl (fun c66 => ?_) (fun c66 => ?_)
          · obtain ⟨a69, r68, k70, e71⟩ := I53.get ho hE (34)
            have k70 : κ a69 = (60, 2) := k70
            obtain ⟨a73, r72, k74, e75⟩ := I53.get ho hE (34)
            have k74 : κ a73 = (60, 2) := k74
            obtain ⟨x77, r76⟩ := I53.get k74 e75 ((nI e).toNatClampNeg)
            refine ft_run_ok k_M_isGot 8 _ _ _ _ [.ref a69, .ref a73, .int (x77)] rfl ⟨I53.K ho, r68, I53.K ho, r72, I53.Kd k74 rfl, I53.vi k74 (by omega) (by decide), r76, trivial⟩ ?_
            refine r_icmp k_M_isGot rfl rfl (fun c78 => ?_) (fun c78 => ?_)
            · obtain ⟨a81, r80, k82, e83⟩ := I53.get ho hE (34)
              have k82 : κ a81 = (60, 2) := k82
              obtain ⟨x85, r84⟩ := I53.get k82 e83 ((nI e).toNatClampNeg)
              have I86 := I53.set (k := (nI e).toNatClampNeg) (v := .int (x85)) k70 ⟨_, rfl⟩
              obtain ⟨a88, r87, k89, e90⟩ := I86.get ho hE (36)
              have k89 : κ a88 = (62, 2) := k89
              have I91 := I86.set (k := (nI e).toNatClampNeg) (v := .int (nI 8)) k89 ⟨_, rfl⟩
              obtain ⟨a93, r92, k94, e95⟩ := I91.get ho hE (40)
              have k94 : κ a93 = (66, 2) := k94
              have r96 := I91.get ho hE (1)
              have I97 := I91.set (k := (nI e).toNatClampNeg) (v := .int (nI (P 1))) k94 ⟨_, rfl⟩
              refine ft_run_ok k_M_isGot 16 _ _ _ _ [.ref a81, .int (x85), .ref a88, .ref a93, .int (nI (P 1))] rfl ⟨I53.K ho, r80, I53.Kd k82 rfl, I53.vi k82 (by omega) (by decide), r84, I53.Kd k70 rfl, I53.B k70, I53.vi k70 (by omega) (by decide), I86.K ho, r87, I86.Kd k89 rfl, I86.B k89, I86.vi k89 (by omega) (by decide), I91.K ho, r92, I91.K ho, r96, I91.Kd k94 rfl, I91.B k94, I91.vi k94 (by omega) (by decide), trivial⟩ ?_
              exact r_ret (v := none) k_M_isGot rfl trivial (Nat.le_of_ble_eq_true rfl) (Nat.le_of_ble_eq_true rfl) ⟨rfl, I97⟩
            · have I99 := I53.set (k := (nI e).toNatClampNeg) (v := .int (nI 60)) k70 ⟨_, rfl⟩
              obtain ⟨a101, r100, k102, e103⟩ := I99.get ho hE (36)
              have k102 : κ a101 = (62, 2) := k102
              have I104 := I99.set (k := (nI e).toNatClampNeg) (v := .int (nI 8)) k102 ⟨_, rfl⟩
              obtain ⟨a106, r105, k107, e108⟩ := I104.get ho hE (40)
              have k107 : κ a106 = (66, 2) := k107
              have r109 := I104.get ho hE (1)
              have I110 := I104.set (k := (nI e).toNatClampNeg) (v := .int (nI (P 1))) k107 ⟨_, rfl⟩
              refine ft_run_ok k_M_isGot 14 _ _ _ _ [.ref a101, .ref a106, .int (nI (P 1))] rfl ⟨I53.Kd k70 rfl, I53.B k70, I53.vi k70 (by omega) (by decide), I99.K ho, r100, I99.Kd k102 rfl, I99.B k102, I99.vi k102 (by omega) (by decide), I104.K ho, r105, I104.K ho, r109, I104.Kd k107 rfl, I104.B k107, I104.vi k107 (by omega) (by decide), trivial⟩ ?_
              exact r_ret (v := none) k_M_isGot rfl trivial (Nat.le_of_ble_eq_true rfl) (Nat.le_of_ble_eq_true rfl) ⟨rfl, I110⟩
          · obtain ⟨a113, r112, k114, e115⟩ := I53.get ho hE (34)
            have k114 : κ a113 = (60, 2) := k114
            obtain ⟨x117, r116⟩ := I53.get k114 e115 ((nI e).toNatClampNeg)
            have I118 := I53.set (k := (nI e).toNatClampNeg) (v := .int ((x117) + (nI 1))) k114 ⟨_, rfl⟩
            obtain ⟨a120, r119, k121, e122⟩ := I118.get ho hE (37)
            have k121 : κ a120 = (63, 2) := k121
            have I123 := I118.set (k := (nI e).toNatClampNeg) (v := .int (nI 0)) k121 ⟨_, rfl⟩
            obtain ⟨a125, r124, k126, e127⟩ := I123.get ho hE (34)
            have k126 : κ a125 = (60, 2) := k126
            obtain ⟨a129, r128, k130, e131⟩ := I123.get ho hE (34)
            have k130 : κ a129 = (60, 2) := k130
            obtain ⟨x133, r132⟩ := I123.get k130 e131 ((nI e).toNatClampNeg)
            refine ft_run_ok k_M_isGot 21 _ _ _ _ [.ref a113, .int (x117), .ref a120, .ref a125, .ref a129, .int (x133)] rfl ⟨I53.K ho, r112, I53.Kd k114 rfl, I53.vi k114 (by omega) (by decide), r116, I53.Kd k114 rfl, I53.B k114, I53.vi k114 (by omega) (by decide), I118.K ho, r119, I118.Kd k121 rfl, I118.B k121, I118.vi k121 (by omega) (by decide), I123.K ho, r124, I123.K ho, r128, I123.Kd k130 rfl, I123.vi k130 (by omega) (by decide), r132, trivial⟩ ?_
            refine r_icmp k_M_isGot rfl rfl (fun c134 => ?_) (fun c134 => ?_)
            · obtain ⟨a137, r136, k138, e139⟩ := I123.get ho hE (34)
              have k138 : κ a137 = (60, 2) := k138
              obtain ⟨x141, r140⟩ := I123.get k138 e139 ((nI e).toNatClampNeg)
              have I142 := I123.set (k := (nI e).toNatClampNeg) (v := .int (x141)) k126 ⟨_, rfl⟩
              obtain ⟨a144, r143, k145, e146⟩ := I142.get ho hE (36)
              have k145 : κ a144 = (62, 2) := k145
              have I147 := I142.set (k := (nI e).toNatClampNeg) (v := .int (nI 8)) k145 ⟨_, rfl⟩
              obtain ⟨a149, r148, k150, e151⟩ := I147.get ho hE (40)
              have k150 : κ a149 = (66, 2) := k150
              have r152 := I147.get ho hE (1)
              have I153 := I147.set (k := (nI e).toNatClampNeg) (v := .int (nI (P 1))) k150 ⟨_, rfl⟩
              refine ft_run_ok k_M_isGot 16 _ _ _ _ [.ref a137, .int (x141), .ref a144, .ref a149, .int (nI (P 1))] rfl ⟨I123.K ho, r136, I123.Kd k138 rfl, I123.vi k138 (by omega) (by decide), r140, I123.Kd k126 rfl, I123.B k126, I123.vi k126 (by omega) (by decide), I142.K ho, r143, I142.Kd k145 rfl, I142.B k145, I142.vi k145 (by omega) (by decide), I147.K ho, r148, I147.K ho, r152, I147.Kd k150 rfl, I147.B k150, I147.vi k150 (by omega) (by decide), trivial⟩ ?_
              exact r_ret (v := none) k_M_isGot rfl trivial (Nat.le_of_ble_eq_true rfl) (Nat.le_of_ble_eq_true rfl) ⟨rfl, I153⟩
            · have I155 := I123.set (k := (nI e).toNatClampNeg) (v := .int (nI 60)) k126 ⟨_, rfl⟩
              obtain ⟨a157, r156, k158, e159⟩ := I155.get ho hE (36)
              have k158 : κ a157 = (62, 2) := k158
              have I160 := I155.set (k := (nI e).toNatClampNeg) (v := .int (nI 8)) k158 ⟨_, rfl⟩
              obtain ⟨a162, r161, k163, e164⟩ := I160.get ho hE (40)
              have k163 : κ a162 = (66, 2) := k163
              have r165 := I160.get ho hE (1)
              have I166 := I160.set (k := (nI e).toNatClampNeg) (v := .int (nI (P 1))) k163 ⟨_, rfl⟩
              refine ft_run_ok k_M_isGot 14 _ _ _ _ [.ref a157, .ref a162, .int (nI (P 1))] rfl ⟨I123.Kd k126 rfl, I123.B k126, I123.vi k126 (by omega) (by decide), I155.K ho, r156, I155.Kd k158 rfl, I155.B k158, I155.vi k158 (by omega) (by decide), I160.K ho, r161, I160.K ho, r165, I160.Kd k163 rfl, I160.B k163, I160.vi k163 (by omega) (by decide), trivial⟩ ?_
              exact r_ret (v := none) k_M_isGot rfl trivial (Nat.le_of_ble_eq_true rfl) (Nat.le_of_ble_eq_true rfl) ⟨rfl, I166⟩
        · obtain ⟨a169, r168, k170, e171⟩ := I32.get ho hE (34)
          have k170 : κ a169 = (60, 2) := k170
          obtain ⟨x173, r172⟩ := I32.get k170 e171 ((nI e).toNatClampNeg)
          have I174 := I32.set (k := (nI e).toNatClampNeg) (v := .int ((x173) + (nI 1))) k170 ⟨_, rfl⟩
          obtain ⟨a176, r175, k177, e178⟩ := I174.get ho hE (34)
          have k177 : κ a176 = (60, 2) := k177
          obtain ⟨a180, r179, k181, e182⟩ := I174.get ho hE (34)
          have k181 : κ a180 = (60, 2) := k181
          obtain ⟨x184, r183⟩ := I174.get k181 e182 ((nI e).toNatClampNeg)
          refine ft_run_ok k_M_isGot 17 _ _ _ _ [.ref a169, .int (x173), .ref a176, .ref a180, .int (x184)] rfl ⟨I32.K ho, r168, I32.Kd k170 rfl, I32.vi k170 (by omega) (by decide), r172, I32.Kd k170 rfl, I32.B k170, I32.vi k170 (by omega) (by decide), I174.K ho, r175, I174.K ho, r179, I174.Kd k181 rfl, I174.vi k181 (by omega) (by decide), r183, trivial⟩ ?_
          refine r_icmp k_M_isGot rfl rfl (fun c185 => ?_) (fun c185 => ?_)
          · obtain ⟨a188, r187, k189, e190⟩ := I174.get ho hE (34)
            have k189 : κ a188 = (60, 2) := k189
            obtain ⟨x192, r191⟩ := I174.get k189 e190 ((nI e).toNatClampNeg)
            have I193 := I174.set (k := (nI e).toNatClampNeg) (v := .int (x192)) k177 ⟨_, rfl⟩
            obtain ⟨a195, r194, k196, e197⟩ := I193.get ho hE (36)
            have k196 : κ a195 = (62, 2) := k196
            have I198 := I193.set (k := (nI e).toNatClampNeg) (v := .int (nI 8)) k196 ⟨_, rfl⟩
            obtain ⟨a200, r199, k201, e202⟩ := I198.get ho hE (40)
            have k201 : κ a200 = (66, 2) := k201
            have r203 := I198.get ho hE (1)
            have I204 := I198.set (k := (nI e).toNatClampNeg) (v := .int (nI (P 1))) k201 ⟨_, rfl⟩
            refine ft_run_ok k_M_isGot 16 _ _ _ _ [.ref a188, .int (x192), .ref a195, .ref a200, .int (nI (P 1))] rfl ⟨I174.K ho, r187, I174.Kd k189 rfl, I174.vi k189 (by omega) (by decide), r191, I174.Kd k177 rfl, I174.B k177, I174.vi k177 (by omega) (by decide), I193.K ho, r194, I193.Kd k196 rfl, I193.B k196, I193.vi k196 (by omega) (by decide), I198.K ho, r199, I198.K ho, r203, I198.Kd k201 rfl, I198.B k201, I198.vi k201 (by omega) (by decide), trivial⟩ ?_
            exact r_ret (v := none) k_M_isGot rfl trivial (Nat.le_of_ble_eq_true rfl) (Nat.le_of_ble_eq_true rfl) ⟨rfl, I204⟩
          · have I206 := I174.set (k := (nI e).toNatClampNeg) (v := .int (nI 60)) k177 ⟨_, rfl⟩
            obtain ⟨a208, r207, k209, e210⟩ := I206.get ho hE (36)
            have k209 : κ a208 = (62, 2) := k209
            have I211 := I206.set (k := (nI e).toNatClampNeg) (v := .int (nI 8)) k209 ⟨_, rfl⟩
            obtain ⟨a213, r212, k214, e215⟩ := I211.get ho hE (40)
            have k214 : κ a213 = (66, 2) := k214
            have r216 := I211.get ho hE (1)
            have I217 := I211.set (k := (nI e).toNatClampNeg) (v := .int (nI (P 1))) k214 ⟨_, rfl⟩
            refine ft_run_ok k_M_isGot 14 _ _ _ _ [.ref a208, .ref a213, .int (nI (P 1))] rfl ⟨I174.Kd k177 rfl, I174.B k177, I174.vi k177 (by omega) (by decide), I206.K ho, r207, I206.Kd k209 rfl, I206.B k209, I206.vi k209 (by omega) (by decide), I211.K ho, r212, I211.K ho, r216, I211.Kd k214 rfl, I211.B k214, I211.vi k214 (by omega) (by decide), trivial⟩ ?_
            exact r_ret (v := none) k_M_isGot rfl trivial (Nat.le_of_ble_eq_true rfl) (Nat.le_of_ble_eq_true rfl) ⟨rfl, I217⟩
    · obtain ⟨a220, r219, k221, e222⟩ := I.get ho hE (17)
      have k221 : κ a220 = (43, 512) := k221
      have I223 := I.set (k := (nI n1).toNatClampNeg) (v := .int (nI 2)) k221 ⟨_, rfl⟩
      refine ft_run_ok k_M_isGot 6 _ _ _ _ [.ref a220] rfl ⟨I.K ho, r219, I.Kd k221 rfl, I.B k221, I.vi k221 (by omega) (by decide), trivial⟩ ?_
      exact r_ret (v := none) k_M_isGot rfl trivial (Nat.le_of_ble_eq_true rfl) (Nat.le_of_ble_eq_true rfl) ⟨rfl, I223⟩
  · obtain ⟨a226, r225, k227, e228⟩ := I.get ho hE (19)
    have k227 : κ a226 = (45, 512) := k227
    obtain ⟨x230, r229⟩ := I.get k227 e228 ((nI n1).toNatClampNeg)
    refine ft_run_ok k_M_isGot 6 _ _ _ _ [.ref a226, .long (x230)] rfl ⟨I.K ho, r225, I.Kd k227 rfl, I.vi k227 (by omega) (by decide), r229, trivial⟩ ?_
    refine r_callS (as := [.long ((x230) + (lN 1))]) (r := []) k_M_isGot rfl z_M_around rfl (Nat.le_of_ble_eq_true rfl) (Nat.le_of_ble_eq_true rfl) (Nat.le_of_ble_eq_true rfl) (Nat.le_of_ble_eq_true rfl) (t_M_around) ?_
    rintro v h' ⟨⟨n231, b232, rfl⟩, rfl⟩
    obtain ⟨a234, r233, k235, e236⟩ := I.get ho hE (15)
    have k235 : κ a234 = (41, 2) := k235
    obtain ⟨x238, r237⟩ := I.get k235 e236 ((nI e).toNatClampNeg)
    refine ft_run_ok k_M_isGot 4 _ _ _ _ [.ref a234, .long (x238)] rfl ⟨I.K ho, r233, I.Kd k235 rfl, I.vi k235 (by omega) (by decide), r237, trivial⟩ ?_
    refine r_callS (as := [.long (lN n231), .long (x238)]) (r := []) k_M_isGot rfl z_M_after rfl (Nat.le_of_ble_eq_true rfl) (Nat.le_of_ble_eq_true rfl) (Nat.le_of_ble_eq_true rfl) (Nat.le_of_ble_eq_true rfl) (t_M_after) ?_
    rintro v h' ⟨⟨n239, b240, rfl⟩, rfl⟩
    refine r_if k_M_isGot rfl rfl (fun c241 => ?_) (fun c241 => ?_)
    · have g242 := ft_eq0 (a := n239) (by omega) c241
      obtain ⟨a244, r243, k245, e246⟩ := I.get ho hE (17)
      have k245 : κ a244 = (43, 512) := k245
      obtain ⟨x248, r247⟩ := I.get k245 e246 ((nI n1).toNatClampNeg)
      refine ft_run_ok k_M_isGot 5 _ _ _ _ [.ref a244, .int (x248)] rfl ⟨I.K ho, r243, I.Kd k245 rfl, I.vi k245 (by omega) (by decide), r247, trivial⟩ ?_
      refine r_icmp k_M_isGot rfl rfl (fun c249 => ?_) (fun c249 => ?_)
      · obtain ⟨a252, r251, k253, e254⟩ := I.get ho hE (17)
        have k253 : κ a252 = (43, 512) := k253
        obtain ⟨x256, r255⟩ := I.get k253 e254 ((nI n1).toNatClampNeg)
        refine ft_run_ok k_M_isGot 5 _ _ _ _ [.ref a252, .int (x256)] rfl ⟨I.K ho, r251, I.Kd k253 rfl, I.vi k253 (by omega) (by decide), r255, trivial⟩ ?_
        refine r_icmp k_M_isGot rfl rfl (fun c257 => ?_) (fun c257 => ?_)
        · exact r_ret (v := none) k_M_isGot rfl trivial (Nat.le_of_ble_eq_true rfl) (Nat.le_of_ble_eq_true rfl) ⟨rfl, I⟩
        · obtain ⟨a261, r260, k262, e263⟩ := I.get ho hE (17)
          have k262 : κ a261 = (43, 512) := k262
          have I264 := I.set (k := (nI n1).toNatClampNeg) (v := .int (nI 2)) k262 ⟨_, rfl⟩
          obtain ⟨a266, r265, k267, e268⟩ := I264.get ho hE (34)
          have k267 : κ a266 = (60, 2) := k267
          obtain ⟨x270, r269⟩ := I264.get k267 e268 ((nI e).toNatClampNeg)
          obtain ⟨a272, r271, k273, e274⟩ := I264.get ho hE (35)
          have k273 : κ a272 = (61, 2) := k273
          obtain ⟨x276, r275⟩ := I264.get k273 e274 ((nI e).toNatClampNeg)
          refine ft_run_ok k_M_isGot 13 _ _ _ _ [.ref a261, .ref a266, .int (x270), .ref a272, .int (x276)] rfl ⟨I.K ho, r260, I.Kd k262 rfl, I.B k262, I.vi k262 (by omega) (by decide), I264.K ho, r265, I264.Kd k267 rfl, I264.vi k267 (by omega) (by decide), r269, I264.K ho, r271, I264.Kd k273 rfl, I264.vi k273 (by omega) (by decide), r275, trivial⟩ ?_
          refine r_icmp k_M_isGot rfl rfl (fun c277 => ?_) (fun c277 => ?_)
          · obtain ⟨a280, r279, k281, e282⟩ := I264.get ho hE (37)
            have k281 : κ a280 = (63, 2) := k281
            obtain ⟨x284, r283⟩ := I264.get k281 e282 ((nI e).toNatClampNeg)
            have I285 := I264.set (k := (nI e).toNatClampNeg) (v := .int ((x284) + (nI 1))) k281 ⟨_, rfl⟩
            obtain ⟨a287, r286, k288, e289⟩ := I285.get ho hE (37)
            have k288 : κ a287 = (63, 2) := k288
            obtain ⟨x291, r290⟩ := I285.get k288 e289 ((nI e).toNatClampNeg)
            obtain ⟨a293, r292, k294, e295⟩ := I285.get ho hE (34)
            have k294 : κ a293 = (60, 2) := k294
            obtain ⟨x297, r296⟩ := I285.get k294 e295 ((nI e).toNatClampNeg)
            refine ft_run_ok k_M_isGot 16 _ _ _ _ [.ref a280, .int (x284), .ref a287, .int (x291), .ref a293, .int (x297)] rfl ⟨I264.K ho, r279, I264.Kd k281 rfl, I264.vi k281 (by omega) (by decide), r283, I264.Kd k281 rfl, I264.B k281, I264.vi k281 (by omega) (by decide), I285.K ho, r286, I285.Kd k288 rfl, I285.vi k288 (by omega) (by decide), r290, I285.K ho, r292, I285.Kd k294 rfl, I285.vi k294 (by omega) (by decide), r296, trivial⟩ ?_
            refine r_icmp k_M_isGot rfl rfl (fun c298 => ?_) (fun c298 => ?_)
            · obtain ⟨a301, r300, k302, e303⟩ := I285.get ho hE (34)
              have k302 : κ a301 = (60, 2) := k302
              obtain ⟨a305, r304, k306, e307⟩ := I285.get ho hE (34)
              have k306 : κ a305 = (60, 2) := k306
              obtain ⟨x309, r308⟩ := I285.get k306 e307 ((nI e).toNatClampNeg)
              refine ft_run_ok k_M_isGot 8 _ _ _ _ [.ref a301, .ref a305, .int (x309)] rfl ⟨I285.K ho, r300, I285.K ho, r304, I285.Kd k306 rfl, I285.vi k306 (by omega) (by decide), r308, trivial⟩ ?_
              refine r_icmp k_M_isGot rfl rfl (fun c310 => ?_) (fun c310 => ?_)
              · obtain ⟨a313, r312, k314, e315⟩ := I285.get ho hE (34)
                have k314 : κ a313 = (60, 2) := k314
                obtain ⟨x317, r316⟩ := I285.get k314 e315 ((nI e).toNatClampNeg)
                have I318 := I285.set (k := (nI e).toNatClampNeg) (v := .int (x317)) k302 ⟨_, rfl⟩
                obtain ⟨a320, r319, k321, e322⟩ := I318.get ho hE (36)
                have k321 : κ a320 = (62, 2) := k321
                have I323 := I318.set (k := (nI e).toNatClampNeg) (v := .int (nI 8)) k321 ⟨_, rfl⟩
                obtain ⟨a325, r324, k326, e327⟩ := I323.get ho hE (40)
                have k326 : κ a325 = (66, 2) := k326
                have r328 := I323.get ho hE (1)
                have I329 := I323.set (k := (nI e).toNatClampNeg) (v := .int (nI (P 1))) k326 ⟨_, rfl⟩
                refine ft_run_ok k_M_isGot 16 _ _ _ _ [.ref a313, .int (x317), .ref a320, .ref a325, .int (nI (P 1))] rfl ⟨I285.K ho, r312, I285.Kd k314 rfl, I285.vi k314 (by omega) (by decide), r316, I285.Kd k302 rfl, I285.B k302, I285.vi k302 (by omega) (by decide), I318.K ho, r319, I318.Kd k321 rfl, I318.B k321, I318.vi k321 (by omega) (by decide), I323.K ho, r324, I323.K ho, r328, I323.Kd k326 rfl, I323.B k326, I323.vi k326 (by omega) (by decide), trivial⟩ ?_
                exact r_ret (v := none) k_M_isGot rfl trivial (Nat.le_of_ble_eq_true rfl) (Nat.le_of_ble_eq_true rfl) ⟨rfl, I329⟩
              · have I331 := I285.set (k := (nI e).toNatClampNeg) (v := .int (nI 60)) k302 ⟨_, rfl⟩
                obtain ⟨a333, r332, k334, e335⟩ := I331.get ho hE (36)
                have k334 : κ a333 = (62, 2) := k334
                have I336 := I331.set (k := (nI e).toNatClampNeg) (v := .int (nI 8)) k334 ⟨_, rfl⟩
                obtain ⟨a338, r337, k339, e340⟩ := I336.get ho hE (40)
                have k339 : κ a338 = (66, 2) := k339
                have r341 := I336.get ho hE (1)
                have I342 := I336.set (k := (nI e).toNatClampNeg) (v := .int (nI (P 1))) k339 ⟨_, rfl⟩
                refine ft_run_ok k_M_isGot 14 _ _ _ _ [.ref a333, .ref a338, .int (nI (P 1))] rfl ⟨I285.Kd k302 rfl, I285.B k302, I285.vi k302 (by omega) (by decide), I331.K ho, r332, I331.Kd k334 rfl, I331.B k334, I331.vi k334 (by omega) (by decide), I336.K ho, r337, I336.K ho, r341, I336.Kd k339 rfl, I336.B k339, I336.vi k339 (by omega) (by decide), trivial⟩ ?_
                exact r_ret (v := none) k_M_isGot rfl trivial (Nat.le_of_ble_eq_true rfl) (Nat.le_of_ble_eq_true rfl) ⟨rfl, I342⟩
            · obtain ⟨a345, r344, k346, e347⟩ := I285.get ho hE (34)
              have k346 : κ a345 = (60, 2) := k346
              obtain ⟨x349, r348⟩ := I285.get k346 e347 ((nI e).toNatClampNeg)
              have I350 := I285.set (k := (nI e).toNatClampNeg) (v := .int ((x349) + (nI 1))) k346 ⟨_, rfl⟩
              obtain ⟨a352, r351, k353, e354⟩ := I350.get ho hE (37)
              have k353 : κ a352 = (63, 2) := k353
              have I355 := I350.set (k := (nI e).toNatClampNeg) (v := .int (nI 0)) k353 ⟨_, rfl⟩
              obtain ⟨a357, r356, k358, e359⟩ := I355.get ho hE (34)
              have k358 : κ a357 = (60, 2) := k358
              obtain ⟨a361, r360, k362, e363⟩ := I355.get ho hE (34)
              have k362 : κ a361 = (60, 2) := k362
              obtain ⟨x365, r364⟩ := I355.get k362 e363 ((nI e).toNatClampNeg)
              refine ft_run_ok k_M_isGot 21 _ _ _ _ [.ref a345, .int (x349), .ref a352, .ref a357, .ref a361, .int (x365)] rfl ⟨I285.K ho, r344, I285.Kd k346 rfl, I285.vi k346 (by omega) (by decide), r348, I285.Kd k346 rfl, I285.B k346, I285.vi k346 (by omega) (by decide), I350.K ho, r351, I350.Kd k353 rfl, I350.B k353, I350.vi k353 (by omega) (by decide), I355.K ho, r356, I355.K ho, r360, I355.Kd k362 rfl, I355.vi k362 (by omega) (by decide), r364, trivial⟩ ?_
              refine r_icmp k_M_isGot rfl rfl (fun c366 => ?_) (fun c366 => ?_)
              · obtain ⟨a369, r368, k370, e371⟩ := I355.get ho hE (34)
                have k370 : κ a369 = (60, 2) := k370
                obtain ⟨x373, r372⟩ := I355.get k370 e371 ((nI e).toNatClampNeg)
                have I374 := I355.set (k := (nI e).toNatClampNeg) (v := .int (x373)) k358 ⟨_, rfl⟩
                obtain ⟨a376, r375, k377, e378⟩ := I374.get ho hE (36)
                have k377 : κ a376 = (62, 2) := k377
                have I379 := I374.set (k := (nI e).toNatClampNeg) (v := .int (nI 8)) k377 ⟨_, rfl⟩
                obtain ⟨a381, r380, k382, e383⟩ := I379.get ho hE (40)
                have k382 : κ a381 = (66, 2) := k382
                have r384 := I379.get ho hE (1)
                have I385 := I379.set (k := (nI e).toNatClampNeg) (v := .int (nI (P 1))) k382 ⟨_, rfl⟩
                refine ft_run_ok k_M_isGot 16 _ _ _ _ [.ref a369, .int (x373), .ref a376, .ref a381, .int (nI (P 1))] rfl ⟨I355.K ho, r368, I355.Kd k370 rfl, I355.vi k370 (by omega) (by decide), r372, I355.Kd k358 rfl, I355.B k358, I355.vi k358 (by omega) (by decide), I374.K ho, r375, I374.Kd k377 rfl, I374.B k377, I374.vi k377 (by omega) (by decide), I379.K ho, r380, I379.K ho, r384, I379.Kd k382 rfl, I379.B k382, I379.vi k382 (by omega) (by decide), trivial⟩ ?_
                exact r_ret (v := none) k_M_isGot rfl trivial (Nat.le_of_ble_eq_true rfl) (Nat.le_of_ble_eq_true rfl) ⟨rfl, I385⟩
              · have I387 := I355.set (k := (nI e).toNatClampNeg) (v := .int (nI 60)) k358 ⟨_, rfl⟩
                obtain ⟨a389, r388, k390, e391⟩ := I387.get ho hE (36)
                have k390 : κ a389 = (62, 2) := k390
                have I392 := I387.set (k := (nI e).toNatClampNeg) (v := .int (nI 8)) k390 ⟨_, rfl⟩
                obtain ⟨a394, r393, k395, e396⟩ := I392.get ho hE (40)
                have k395 : κ a394 = (66, 2) := k395
                have r397 := I392.get ho hE (1)
                have I398 := I392.set (k := (nI e).toNatClampNeg) (v := .int (nI (P 1))) k395 ⟨_, rfl⟩
                refine ft_run_ok k_M_isGot 14 _ _ _ _ [.ref a389, .ref a394, .int (nI (P 1))] rfl ⟨I355.Kd k358 rfl, I355.B k358, I355.vi k358 (by omega) (by decide), I387.K ho, r388, I387.Kd k390 rfl, I387.B k390, I387.vi k390 (by omega) (by decide), I392.K ho, r393, I392.K ho, r397, I392.Kd k395 rfl, I392.B k395, I392.vi k395 (by omega) (by decide), trivial⟩ ?_
                exact r_ret (v := none) k_M_isGot rfl trivial (Nat.le_of_ble_eq_true rfl) (Nat.le_of_ble_eq_true rfl) ⟨rfl, I398⟩
          · obtain ⟨a401, r400, k402, e403⟩ := I264.get ho hE (34)
            have k402 : κ a401 = (60, 2) := k402
            obtain ⟨x405, r404⟩ := I264.get k402 e403 ((nI e).toNatClampNeg)
            have I406 := I264.set (k := (nI e).toNatClampNeg) (v := .int ((x405) + (nI 1))) k402 ⟨_, rfl⟩
            obtain ⟨a408, r407, k409, e410⟩ := I406.get ho hE (34)
            have k409 : κ a408 = (60, 2) := k409
            obtain ⟨a412, r411, k413, e414⟩ := I406.get ho hE (34)
            have k413 : κ a412 = (60, 2) := k413
            obtain ⟨x416, r415⟩ := I406.get k413 e414 ((nI e).toNatClampNeg)
            refine ft_run_ok k_M_isGot 17 _ _ _ _ [.ref a401, .int (x405), .ref a408, .ref a412, .int (x416)] rfl ⟨I264.K ho, r400, I264.Kd k402 rfl, I264.vi k402 (by omega) (by decide), r404, I264.Kd k402 rfl, I264.B k402, I264.vi k402 (by omega) (by decide), I406.K ho, r407, I406.K ho, r411, I406.Kd k413 rfl, I406.vi k413 (by omega) (by decide), r415, trivial⟩ ?_
            refine r_icmp k_M_isGot rfl rfl (fun c417 => ?_) (fun c417 => ?_)
            · obtain ⟨a420, r419, k421, e422⟩ := I406.get ho hE (34)
              have k421 : κ a420 = (60, 2) := k421
              obtain ⟨x424, r423⟩ := I406.get k421 e422 ((nI e).toNatClampNeg)
              have I425 := I406.set (k := (nI e).toNatClampNeg) (v := .int (x424)) k409 ⟨_, rfl⟩
              obtain ⟨a427, r426, k428, e429⟩ := I425.get ho hE (36)
              have k428 : κ a427 = (62, 2) := k428
              have I430 := I425.set (k := (nI e).toNatClampNeg) (v := .int (nI 8)) k428 ⟨_, rfl⟩
              obtain ⟨a432, r431, k433, e434⟩ := I430.get ho hE (40)
              have k433 : κ a432 = (66, 2) := k433
              have r435 := I430.get ho hE (1)
              have I436 := I430.set (k := (nI e).toNatClampNeg) (v := .int (nI (P 1))) k433 ⟨_, rfl⟩
              refine ft_run_ok k_M_isGot 16 _ _ _ _ [.ref a420, .int (x424), .ref a427, .ref a432, .int (nI (P 1))] rfl ⟨I406.K ho, r419, I406.Kd k421 rfl, I406.vi k421 (by omega) (by decide), r423, I406.Kd k409 rfl, I406.B k409, I406.vi k409 (by omega) (by decide), I425.K ho, r426, I425.Kd k428 rfl, I425.B k428, I425.vi k428 (by omega) (by decide), I430.K ho, r431, I430.K ho, r435, I430.Kd k433 rfl, I430.B k433, I430.vi k433 (by omega) (by decide), trivial⟩ ?_
              exact r_ret (v := none) k_M_isGot rfl trivial (Nat.le_of_ble_eq_true rfl) (Nat.le_of_ble_eq_true rfl) ⟨rfl, I436⟩
            · have I438 := I406.set (k := (nI e).toNatClampNeg) (v := .int (nI 60)) k409 ⟨_, rfl⟩
              obtain ⟨a440, r439, k441, e442⟩ := I438.get ho hE (36)
              have k441 : κ a440 = (62, 2) := k441
              have I443 := I438.set (k := (nI e).toNatClampNeg) (v := .int (nI 8)) k441 ⟨_, rfl⟩
              obtain ⟨a445, r444, k446, e447⟩ := I443.get ho hE (40)
              have k446 : κ a445 = (66, 2) := k446
              have r448 := I443.get ho hE (1)
              have I449 := I443.set (k := (nI e).toNatClampNeg) (v := .int (nI (P 1))) k446 ⟨_, rfl⟩
              refine ft_run_ok k_M_isGot 14 _ _ _ _ [.ref a440, .ref a445, .int (nI (P 1))] rfl ⟨I406.Kd k409 rfl, I406.B k409, I406.vi k409 (by omega) (by decide), I438.K ho, r439, I438.Kd k441 rfl, I438.B k441, I438.vi k441 (by omega) (by decide), I443.K ho, r444, I443.K ho, r448, I443.Kd k446 rfl, I443.B k446, I443.vi k446 (by omega) (by decide), trivial⟩ ?_
              exact r_ret (v := none) k_M_isGot rfl trivial (Nat.le_of_ble_eq_true rfl) (Nat.le_of_ble_eq_true rfl) ⟨rfl, I449⟩
      · obtain ⟨a452, r451, k453, e454⟩ := I.get ho hE (17)
        have k453 : κ a452 = (43, 512) := k453
        have I455 := I.set (k := (nI n1).toNatClampNeg) (v := .int (nI 2)) k453 ⟨_, rfl⟩
        refine ft_run_ok k_M_isGot 6 _ _ _ _ [.ref a452] rfl ⟨I.K ho, r451, I.Kd k453 rfl, I.B k453, I.vi k453 (by omega) (by decide), trivial⟩ ?_
        exact r_ret (v := none) k_M_isGot rfl trivial (Nat.le_of_ble_eq_true rfl) (Nat.le_of_ble_eq_true rfl) ⟨rfl, I455⟩
    · have g456 := ft_ne0 (a := n239) c241
      obtain ⟨a458, r457, k459, e460⟩ := I.get ho hE (15)
      have k459 : κ a458 = (41, 2) := k459
      obtain ⟨a462, r461, k463, e464⟩ := I.get ho hE (19)
      have k463 : κ a462 = (45, 512) := k463
      obtain ⟨x466, r465⟩ := I.get k463 e464 ((nI n1).toNatClampNeg)
      refine ft_run_ok k_M_isGot 9 _ _ _ _ [.ref a458, .ref a462, .long (x466)] rfl ⟨I.K ho, r457, I.K ho, r461, I.Kd k463 rfl, I.vi k463 (by omega) (by decide), r465, trivial⟩ ?_
      refine r_callS (as := [.long ((x466) + (lN 1))]) (r := [.int (nI e), .ref a458]) k_M_isGot rfl z_M_around rfl (Nat.le_of_ble_eq_true rfl) (Nat.le_of_ble_eq_true rfl) (Nat.le_of_ble_eq_true rfl) (Nat.le_of_ble_eq_true rfl) (t_M_around) ?_
      rintro v h' ⟨⟨n467, b468, rfl⟩, rfl⟩
      have I469 := I.set (k := (nI e).toNatClampNeg) (v := .long (lN n467)) k459 ⟨_, rfl⟩
      obtain ⟨a471, r470, k472, e473⟩ := I469.get ho hE (17)
      have k472 : κ a471 = (43, 512) := k472
      obtain ⟨x475, r474⟩ := I469.get k472 e473 ((nI n1).toNatClampNeg)
      refine ft_run_ok k_M_isGot 6 _ _ _ _ [.ref a471, .int (x475)] rfl ⟨I.Kd k459 rfl, I.B k459, I.vi k459 (by omega) (by decide), I469.K ho, r470, I469.Kd k472 rfl, I469.vi k472 (by omega) (by decide), r474, trivial⟩ ?_
      refine r_icmp k_M_isGot rfl rfl (fun c476 => ?_) (fun c476 => ?_)
      · obtain ⟨a479, r478, k480, e481⟩ := I469.get ho hE (17)
        have k480 : κ a479 = (43, 512) := k480
        obtain ⟨x483, r482⟩ := I469.get k480 e481 ((nI n1).toNatClampNeg)
        refine ft_run_ok k_M_isGot 5 _ _ _ _ [.ref a479, .int (x483)] rfl ⟨I469.K ho, r478, I469.Kd k480 rfl, I469.vi k480 (by omega) (by decide), r482, trivial⟩ ?_
        refine r_icmp k_M_isGot rfl rfl (fun c484 => ?_) (fun c484 => ?_)
        · exact r_ret (v := none) k_M_isGot rfl trivial (Nat.le_of_ble_eq_true rfl) (Nat.le_of_ble_eq_true rfl) ⟨rfl, I469⟩
        · obtain ⟨a488, r487, k489, e490⟩ := I469.get ho hE (17)
          have k489 : κ a488 = (43, 512) := k489
          have I491 := I469.set (k := (nI n1).toNatClampNeg) (v := .int (nI 2)) k489 ⟨_, rfl⟩
          obtain ⟨a493, r492, k494, e495⟩ := I491.get ho hE (34)
          have k494 : κ a493 = (60, 2) := k494
          obtain ⟨x497, r496⟩ := I491.get k494 e495 ((nI e).toNatClampNeg)
          obtain ⟨a499, r498, k500, e501⟩ := I491.get ho hE (35)
          have k500 : κ a499 = (61, 2) := k500
          obtain ⟨x503, r502⟩ := I491.get k500 e501 ((nI e).toNatClampNeg)
          refine ft_run_ok k_M_isGot 13 _ _ _ _ [.ref a488, .ref a493, .int (x497), .ref a499, .int (x503)] rfl ⟨I469.K ho, r487, I469.Kd k489 rfl, I469.B k489, I469.vi k489 (by omega) (by decide), I491.K ho, r492, I491.Kd k494 rfl, I491.vi k494 (by omega) (by decide), r496, I491.K ho, r498, I491.Kd k500 rfl, I491.vi k500 (by omega) (by decide), r502, trivial⟩ ?_
          refine r_icmp k_M_isGot rfl rfl (fun c504 => ?_) (fun c504 => ?_)
          · obtain ⟨a507, r506, k508, e509⟩ := I491.get ho hE (37)
            have k508 : κ a507 = (63, 2) := k508
            obtain ⟨x511, r510⟩ := I491.get k508 e509 ((nI e).toNatClampNeg)
            have I512 := I491.set (k := (nI e).toNatClampNeg) (v := .int ((x511) + (nI 1))) k508 ⟨_, rfl⟩
            obtain ⟨a514, r513, k515, e516⟩ := I512.get ho hE (37)
            have k515 : κ a514 = (63, 2) := k515
            obtain ⟨x518, r517⟩ := I512.get k515 e516 ((nI e).toNatClampNeg)
            obtain ⟨a520, r519, k521, e522⟩ := I512.get ho hE (34)
            have k521 : κ a520 = (60, 2) := k521
            obtain ⟨x524, r523⟩ := I512.get k521 e522 ((nI e).toNatClampNeg)
            refine ft_run_ok k_M_isGot 16 _ _ _ _ [.ref a507, .int (x511), .ref a514, .int (x518), .ref a520, .int (x524)] rfl ⟨I491.K ho, r506, I491.Kd k508 rfl, I491.vi k508 (by omega) (by decide), r510, I491.Kd k508 rfl, I491.B k508, I491.vi k508 (by omega) (by decide), I512.K ho, r513, I512.Kd k515 rfl, I512.vi k515 (by omega) (by decide), r517, I512.K ho, r519, I512.Kd k521 rfl, I512.vi k521 (by omega) (by decide), r523, trivial⟩ ?_
            refine r_icmp k_M_isGot rfl rfl (fun c525 => ?_) (fun c525 => ?_)
            · obtain ⟨a528, r527, k529, e530⟩ := I512.get ho hE (34)
              have k529 : κ a528 = (60, 2) := k529
              obtain ⟨a532, r531, k533, e534⟩ := I512.get ho hE (34)
              have k533 : κ a532 = (60, 2) := k533
              obtain ⟨x536, r535⟩ := I512.get k533 e534 ((nI e).toNatClampNeg)
              refine ft_run_ok k_M_isGot 8 _ _ _ _ [.ref a528, .ref a532, .int (x536)] rfl ⟨I512.K ho, r527, I512.K ho, r531, I512.Kd k533 rfl, I512.vi k533 (by omega) (by decide), r535, trivial⟩ ?_
              refine r_icmp k_M_isGot rfl rfl (fun c537 => ?_) (fun c537 => ?_)
              · obtain ⟨a540, r539, k541, e542⟩ := I512.get ho hE (34)
                have k541 : κ a540 = (60, 2) := k541
                obtain ⟨x544, r543⟩ := I512.get k541 e542 ((nI e).toNatClampNeg)
                have I545 := I512.set (k := (nI e).toNatClampNeg) (v := .int (x544)) k529 ⟨_, rfl⟩
                obtain ⟨a547, r546, k548, e549⟩ := I545.get ho hE (36)
                have k548 : κ a547 = (62, 2) := k548
                have I550 := I545.set (k := (nI e).toNatClampNeg) (v := .int (nI 8)) k548 ⟨_, rfl⟩
                obtain ⟨a552, r551, k553, e554⟩ := I550.get ho hE (40)
                have k553 : κ a552 = (66, 2) := k553
                have r555 := I550.get ho hE (1)
                have I556 := I550.set (k := (nI e).toNatClampNeg) (v := .int (nI (P 1))) k553 ⟨_, rfl⟩
                refine ft_run_ok k_M_isGot 16 _ _ _ _ [.ref a540, .int (x544), .ref a547, .ref a552, .int (nI (P 1))] rfl ⟨I512.K ho, r539, I512.Kd k541 rfl, I512.vi k541 (by omega) (by decide), r543, I512.Kd k529 rfl, I512.B k529, I512.vi k529 (by omega) (by decide), I545.K ho, r546, I545.Kd k548 rfl, I545.B k548, I545.vi k548 (by omega) (by decide), I550.K ho, r551, I550.K ho, r555, I550.Kd k553 rfl, I550.B k553, I550.vi k553 (by omega) (by decide), trivial⟩ ?_
                exact r_ret (v := none) k_M_isGot rfl trivial (Nat.le_of_ble_eq_true rfl) (Nat.le_of_ble_eq_true rfl) ⟨rfl, I556⟩
              · have I558 := I512.set (k := (nI e).toNatClampNeg) (v := .int (nI 60)) k529 ⟨_, rfl⟩
                obtain ⟨a560, r559, k561, e562⟩ := I558.get ho hE (36)
                have k561 : κ a560 = (62, 2) := k561
                have I563 := I558.set (k := (nI e).toNatClampNeg) (v := .int (nI 8)) k561 ⟨_, rfl⟩
                obtain ⟨a565, r564, k566, e567⟩ := I563.get ho hE (40)
                have k566 : κ a565 = (66, 2) := k566
                have r568 := I563.get ho hE (1)
                have I569 := I563.set (k := (nI e).toNatClampNeg) (v := .int (nI (P 1))) k566 ⟨_, rfl⟩
                refine ft_run_ok k_M_isGot 14 _ _ _ _ [.ref a560, .ref a565, .int (nI (P 1))] rfl ⟨I512.Kd k529 rfl, I512.B k529, I512.vi k529 (by omega) (by decide), I558.K ho, r559, I558.Kd k561 rfl, I558.B k561, I558.vi k561 (by omega) (by decide), I563.K ho, r564, I563.K ho, r568, I563.Kd k566 rfl, I563.B k566, I563.vi k566 (by omega) (by decide), trivial⟩ ?_
                exact r_ret (v := none) k_M_isGot rfl trivial (Nat.le_of_ble_eq_true rfl) (Nat.le_of_ble_eq_true rfl) ⟨rfl, I569⟩
            · obtain ⟨a572, r571, k573, e574⟩ := I512.get ho hE (34)
              have k573 : κ a572 = (60, 2) := k573
              obtain ⟨x576, r575⟩ := I512.get k573 e574 ((nI e).toNatClampNeg)
              have I577 := I512.set (k := (nI e).toNatClampNeg) (v := .int ((x576) + (nI 1))) k573 ⟨_, rfl⟩
              obtain ⟨a579, r578, k580, e581⟩ := I577.get ho hE (37)
              have k580 : κ a579 = (63, 2) := k580
              have I582 := I577.set (k := (nI e).toNatClampNeg) (v := .int (nI 0)) k580 ⟨_, rfl⟩
              obtain ⟨a584, r583, k585, e586⟩ := I582.get ho hE (34)
              have k585 : κ a584 = (60, 2) := k585
              obtain ⟨a588, r587, k589, e590⟩ := I582.get ho hE (34)
              have k589 : κ a588 = (60, 2) := k589
              obtain ⟨x592, r591⟩ := I582.get k589 e590 ((nI e).toNatClampNeg)
              refine ft_run_ok k_M_isGot 21 _ _ _ _ [.ref a572, .int (x576), .ref a579, .ref a584, .ref a588, .int (x592)] rfl ⟨I512.K ho, r571, I512.Kd k573 rfl, I512.vi k573 (by omega) (by decide), r575, I512.Kd k573 rfl, I512.B k573, I512.vi k573 (by omega) (by decide), I577.K ho, r578, I577.Kd k580 rfl, I577.B k580, I577.vi k580 (by omega) (by decide), I582.K ho, r583, I582.K ho, r587, I582.Kd k589 rfl, I582.vi k589 (by omega) (by decide), r591, trivial⟩ ?_
              refine r_icmp k_M_isGot rfl rfl (fun c593 => ?_) (fun c593 => ?_)
              · obtain ⟨a596, r595, k597, e598⟩ := I582.get ho hE (34)
                have k597 : κ a596 = (60, 2) := k597
                obtain ⟨x600, r599⟩ := I582.get k597 e598 ((nI e).toNatClampNeg)
                have I601 := I582.set (k := (nI e).toNatClampNeg) (v := .int (x600)) k585 ⟨_, rfl⟩
                obtain ⟨a603, r602, k604, e605⟩ := I601.get ho hE (36)
                have k604 : κ a603 = (62, 2) := k604
                have I606 := I601.set (k := (nI e).toNatClampNeg) (v := .int (nI 8)) k604 ⟨_, rfl⟩
                obtain ⟨a608, r607, k609, e610⟩ := I606.get ho hE (40)
                have k609 : κ a608 = (66, 2) := k609
                have r611 := I606.get ho hE (1)
                have I612 := I606.set (k := (nI e).toNatClampNeg) (v := .int (nI (P 1))) k609 ⟨_, rfl⟩
                refine ft_run_ok k_M_isGot 16 _ _ _ _ [.ref a596, .int (x600), .ref a603, .ref a608, .int (nI (P 1))] rfl ⟨I582.K ho, r595, I582.Kd k597 rfl, I582.vi k597 (by omega) (by decide), r599, I582.Kd k585 rfl, I582.B k585, I582.vi k585 (by omega) (by decide), I601.K ho, r602, I601.Kd k604 rfl, I601.B k604, I601.vi k604 (by omega) (by decide), I606.K ho, r607, I606.K ho, r611, I606.Kd k609 rfl, I606.B k609, I606.vi k609 (by omega) (by decide), trivial⟩ ?_
                exact r_ret (v := none) k_M_isGot rfl trivial (Nat.le_of_ble_eq_true rfl) (Nat.le_of_ble_eq_true rfl) ⟨rfl, I612⟩
              · have I614 := I582.set (k := (nI e).toNatClampNeg) (v := .int (nI 60)) k585 ⟨_, rfl⟩
                obtain ⟨a616, r615, k617, e618⟩ := I614.get ho hE (36)
                have k617 : κ a616 = (62, 2) := k617
                have I619 := I614.set (k := (nI e).toNatClampNeg) (v := .int (nI 8)) k617 ⟨_, rfl⟩
                obtain ⟨a621, r620, k622, e623⟩ := I619.get ho hE (40)
                have k622 : κ a621 = (66, 2) := k622
                have r624 := I619.get ho hE (1)
                have I625 := I619.set (k := (nI e).toNatClampNeg) (v := .int (nI (P 1))) k622 ⟨_, rfl⟩
                refine ft_run_ok k_M_isGot 14 _ _ _ _ [.ref a616, .ref a621, .int (nI (P 1))] rfl ⟨I582.Kd k585 rfl, I582.B k585, I582.vi k585 (by omega) (by decide), I614.K ho, r615, I614.Kd k617 rfl, I614.B k617, I614.vi k617 (by omega) (by decide), I619.K ho, r620, I619.K ho, r624, I619.Kd k622 rfl, I619.B k622, I619.vi k622 (by omega) (by decide), trivial⟩ ?_
                exact r_ret (v := none) k_M_isGot rfl trivial (Nat.le_of_ble_eq_true rfl) (Nat.le_of_ble_eq_true rfl) ⟨rfl, I625⟩
          · obtain ⟨a628, r627, k629, e630⟩ := I491.get ho hE (34)
            have k629 : κ a628 = (60, 2) := k629
            obtain ⟨x632, r631⟩ := I491.get k629 e630 ((nI e).toNatClampNeg)
            have I633 := I491.set (k := (nI e).toNatClampNeg) (v := .int ((x632) + (nI 1))) k629 ⟨_, rfl⟩
            obtain ⟨a635, r634, k636, e637⟩ := I633.get ho hE (34)
            have k636 : κ a635 = (60, 2) := k636
            obtain ⟨a639, r638, k640, e641⟩ := I633.get ho hE (34)
            have k640 : κ a639 = (60, 2) := k640
            obtain ⟨x643, r642⟩ := I633.get k640 e641 ((nI e).toNatClampNeg)
            refine ft_run_ok k_M_isGot 17 _ _ _ _ [.ref a628, .int (x632), .ref a635, .ref a639, .int (x643)] rfl ⟨I491.K ho, r627, I491.Kd k629 rfl, I491.vi k629 (by omega) (by decide), r631, I491.Kd k629 rfl, I491.B k629, I491.vi k629 (by omega) (by decide), I633.K ho, r634, I633.K ho, r638, I633.Kd k640 rfl, I633.vi k640 (by omega) (by decide), r642, trivial⟩ ?_
            refine r_icmp k_M_isGot rfl rfl (fun c644 => ?_) (fun c644 => ?_)
            · obtain ⟨a647, r646, k648, e649⟩ := I633.get ho hE (34)
              have k648 : κ a647 = (60, 2) := k648
              obtain ⟨x651, r650⟩ := I633.get k648 e649 ((nI e).toNatClampNeg)
              have I652 := I633.set (k := (nI e).toNatClampNeg) (v := .int (x651)) k636 ⟨_, rfl⟩
              obtain ⟨a654, r653, k655, e656⟩ := I652.get ho hE (36)
              have k655 : κ a654 = (62, 2) := k655
              have I657 := I652.set (k := (nI e).toNatClampNeg) (v := .int (nI 8)) k655 ⟨_, rfl⟩
              obtain ⟨a659, r658, k660, e661⟩ := I657.get ho hE (40)
              have k660 : κ a659 = (66, 2) := k660
              have r662 := I657.get ho hE (1)
              have I663 := I657.set (k := (nI e).toNatClampNeg) (v := .int (nI (P 1))) k660 ⟨_, rfl⟩
              refine ft_run_ok k_M_isGot 16 _ _ _ _ [.ref a647, .int (x651), .ref a654, .ref a659, .int (nI (P 1))] rfl ⟨I633.K ho, r646, I633.Kd k648 rfl, I633.vi k648 (by omega) (by decide), r650, I633.Kd k636 rfl, I633.B k636, I633.vi k636 (by omega) (by decide), I652.K ho, r653, I652.Kd k655 rfl, I652.B k655, I652.vi k655 (by omega) (by decide), I657.K ho, r658, I657.K ho, r662, I657.Kd k660 rfl, I657.B k660, I657.vi k660 (by omega) (by decide), trivial⟩ ?_
              exact r_ret (v := none) k_M_isGot rfl trivial (Nat.le_of_ble_eq_true rfl) (Nat.le_of_ble_eq_true rfl) ⟨rfl, I663⟩
            · have I665 := I633.set (k := (nI e).toNatClampNeg) (v := .int (nI 60)) k636 ⟨_, rfl⟩
              obtain ⟨a667, r666, k668, e669⟩ := I665.get ho hE (36)
              have k668 : κ a667 = (62, 2) := k668
              have I670 := I665.set (k := (nI e).toNatClampNeg) (v := .int (nI 8)) k668 ⟨_, rfl⟩
              obtain ⟨a672, r671, k673, e674⟩ := I670.get ho hE (40)
              have k673 : κ a672 = (66, 2) := k673
              have r675 := I670.get ho hE (1)
              have I676 := I670.set (k := (nI e).toNatClampNeg) (v := .int (nI (P 1))) k673 ⟨_, rfl⟩
              refine ft_run_ok k_M_isGot 14 _ _ _ _ [.ref a667, .ref a672, .int (nI (P 1))] rfl ⟨I633.Kd k636 rfl, I633.B k636, I633.vi k636 (by omega) (by decide), I665.K ho, r666, I665.Kd k668 rfl, I665.B k668, I665.vi k668 (by omega) (by decide), I670.K ho, r671, I670.K ho, r675, I670.Kd k673 rfl, I670.B k673, I670.vi k673 (by omega) (by decide), trivial⟩ ?_
              exact r_ret (v := none) k_M_isGot rfl trivial (Nat.le_of_ble_eq_true rfl) (Nat.le_of_ble_eq_true rfl) ⟨rfl, I676⟩
      · obtain ⟨a679, r678, k680, e681⟩ := I469.get ho hE (17)
        have k680 : κ a679 = (43, 512) := k680
        have I682 := I469.set (k := (nI n1).toNatClampNeg) (v := .int (nI 2)) k680 ⟨_, rfl⟩
        refine ft_run_ok k_M_isGot 6 _ _ _ _ [.ref a679] rfl ⟨I469.K ho, r678, I469.Kd k680 rfl, I469.B k680, I469.vi k680 (by omega) (by decide), trivial⟩ ?_
        exact r_ret (v := none) k_M_isGot rfl trivial (Nat.le_of_ble_eq_true rfl) (Nat.le_of_ble_eq_true rfl) ⟨rfl, I682⟩
set_option maxRecDepth 100000 in
theorem t_M_missing {o : Nat} {e : Nat} {x_e : Int32} (I : Iv D κ n E P h) (ho : κ o = (kd_M, 0)) (hE : ¬ E o) (q_e : x_e = nI e) (h_e : e < 2) : sm D y_M_missing 0 (lv_args 0 [.ref o, .int x_e]) [] h 0 0 (fun v h' => (v = none) ∧ Iv D κ n E P h') := by
  subst q_e
  have L4 : ∀ (t4 : Nat) (j : Nat), j ≤ 255 → j < t4 → ∀ h : ft_H, Iv D κ n E P h → sm D y_M_missing 4 [(0, .ref o), (1, .int (nI e)), (2, .int (nI j))] [] h 0 0 (fun v h' => (v = none) ∧ Iv D κ n E P h') := by
    intro t4
    induction t4 with
    | zero => intro j f4_0 ht4; exact absurd ht4 (Nat.not_lt_zero _)
    | succ t4 ih4 =>
      intro j f4_0 ht4 h I
      have L52 : ∀ (t52 : Nat) (y3 : Int64) (y5 : Int32) (i : Nat), i ≤ 255 ∧ 0 < j → i < t52 → ∀ h : ft_H, Iv D κ n E P h → sm D y_M_missing 52 [(0, .ref o), (1, .int (nI e)), (2, .int (nI j)), (3, .long (y3)), (5, .int (y5)), (6, .int (nI i))] [] h 0 0 (fun v h' => (v = none) ∧ Iv D κ n E P h') := by
        intro t52
        induction t52 with
        | zero => intro y3 y5 i f52_0 ht52; exact absurd ht52 (Nat.not_lt_zero _)
        | succ t52 ih52 =>
          intro y3 y5 i f52_0 ht52 h I
          refine ft_run_ok k_M_missing 1 _ _ _ _ [] rfl trivial ?_
          refine r_if k_M_missing rfl rfl (fun c1 => ?_) (fun c1 => ?_)
          · have g2 := ft_le0 (a := i) (by omega) c1
            refine ft_run_ok k_M_missing 2 _ _ _ _ [] rfl trivial ?_
            refine r_icmp k_M_missing rfl rfl (fun c3 => ?_) (fun c3 => ?_)
            · refine ft_run_ok k_M_missing 2 _ _ _ _ [] rfl trivial ?_
              rw [show ((nI j) + Int32.ofInt (Int.negSucc 0)) = nI ((j) - 1) from ft_dec (by omega)]
              exact sm_sub [1, 2, 0] rfl (ih4 ((j) - 1) (by omega) (by omega) _ I)
            · obtain ⟨a7, r6, k8, e9⟩ := I.get ho hE (17)
              have k8 : κ a7 = (43, 512) := k8
              refine ft_run_ok k_M_missing 4 _ _ _ _ [.ref a7] rfl ⟨I.K ho, r6, trivial⟩ ?_
              refine r_callS (as := [.int (nI e), .long (y3)]) (r := [.ref a7]) k_M_missing rfl z_M_at rfl (Nat.le_of_ble_eq_true rfl) (Nat.le_of_ble_eq_true rfl) (Nat.le_of_ble_eq_true rfl) (Nat.le_of_ble_eq_true rfl) (t_M_at (e := e) rfl (by omega)) ?_
              rintro v h' ⟨⟨n10, b11, rfl⟩, rfl⟩
              have I12 := I.set (k := (nI n10).toNatClampNeg) (v := .int (nI 3)) k8 ⟨_, rfl⟩
              obtain ⟨a14, r13, k15, e16⟩ := I12.get ho hE (38)
              have k15 : κ a14 = (64, 2) := k15
              obtain ⟨x18, r17⟩ := I12.get k15 e16 ((nI e).toNatClampNeg)
              refine ft_run_ok k_M_missing 6 _ _ _ _ [.ref a14, .int (x18)] rfl ⟨I.Kd k8 rfl, I.B k8, I.vi k8 (by omega) (by decide), I12.K ho, r13, I12.Kd k15 rfl, I12.vi k15 (by omega) (by decide), r17, trivial⟩ ?_
              refine r_if k_M_missing rfl rfl (fun c19 => ?_) (fun c19 => ?_)
              · obtain ⟨a22, r21, k23, e24⟩ := I12.get ho hE (34)
                have k23 : κ a22 = (60, 2) := k23
                obtain ⟨x26, r25⟩ := I12.get k23 e24 ((nI e).toNatClampNeg)
                obtain ⟨a28, r27, k29, e30⟩ := I12.get ho hE (35)
                have k29 : κ a28 = (61, 2) := k29
                refine ft_run_ok k_M_missing 12 _ _ _ _ [.ref a22, .int (x26), .ref a28] rfl ⟨I12.K ho, r21, I12.Kd k23 rfl, I12.vi k23 (by omega) (by decide), r25, (by decide), I12.K ho, r27, trivial⟩ ?_
                refine r_icmp k_M_missing rfl rfl (fun c31 => ?_) (fun c31 => ?_)
                · have I33 := I12.set (k := (nI e).toNatClampNeg) (v := .int ((x26) / (nI 2))) k29 ⟨_, rfl⟩
                  obtain ⟨a35, r34, k36, e37⟩ := I33.get ho hE (34)
                  have k36 : κ a35 = (60, 2) := k36
                  refine ft_run_ok k_M_missing 7 _ _ _ _ [.ref a35] rfl ⟨I12.Kd k29 rfl, I12.B k29, I12.vi k29 (by omega) (by decide), I33.K ho, r34, trivial⟩ ?_
                  refine r_icmp k_M_missing rfl rfl (fun c38 => ?_) (fun c38 => ?_)
                  · have I40 := I33.set (k := (nI e).toNatClampNeg) (v := .int ((x26) / (nI 2))) k36 ⟨_, rfl⟩
                    obtain ⟨a42, r41, k43, e44⟩ := I40.get ho hE (37)
                    have k43 : κ a42 = (63, 2) := k43
                    have I45 := I40.set (k := (nI e).toNatClampNeg) (v := .int (nI 0)) k43 ⟨_, rfl⟩
                    obtain ⟨a47, r46, k48, e49⟩ := I45.get ho hE (38)
                    have k48 : κ a47 = (64, 2) := k48
                    have I50 := I45.set (k := (nI e).toNatClampNeg) (v := narrow .boolean (.int (nI 1))) k48 ⟨_, rfl⟩
                    obtain ⟨a52, r51, k53, e54⟩ := I50.get ho hE (39)
                    have k53 : κ a52 = (65, 2) := k53
                    obtain ⟨a56, r55, k57, e58⟩ := I50.get ho hE (10)
                    have k57 : κ a56 = (36, 2) := k57
                    obtain ⟨x60, r59⟩ := I50.get k57 e58 ((nI e).toNatClampNeg)
                    refine ft_run_ok k_M_missing 21 _ _ _ _ [.ref a42, .ref a47, .ref a52, .ref a56, .long (x60)] rfl ⟨I33.Kd k36 rfl, I33.B k36, I33.vi k36 (by omega) (by decide), I40.K ho, r41, I40.Kd k43 rfl, I40.B k43, I40.vi k43 (by omega) (by decide), I45.K ho, r46, I45.Kd k48 rfl, I45.B k48, I45.vi k48 (by omega) (by decide), I50.K ho, r51, I50.K ho, r55, I50.Kd k57 rfl, I50.vi k57 (by omega) (by decide), r59, trivial⟩ ?_
                    refine r_callS (as := [.long ((x60) - (lN 1))]) (r := [.int (nI e), .ref a52]) k_M_missing rfl z_M_around rfl (Nat.le_of_ble_eq_true rfl) (Nat.le_of_ble_eq_true rfl) (Nat.le_of_ble_eq_true rfl) (Nat.le_of_ble_eq_true rfl) (t_M_around) ?_
                    rintro v h' ⟨⟨n61, b62, rfl⟩, rfl⟩
                    have I63 := I50.set (k := (nI e).toNatClampNeg) (v := .long (lN n61)) k53 ⟨_, rfl⟩
                    refine ft_run_ok k_M_missing 3 _ _ _ _ [] rfl ⟨I50.Kd k53 rfl, I50.B k53, I50.vi k53 (by omega) (by decide), trivial⟩ ?_
                    rw [show ((nI j) + Int32.ofInt (Int.negSucc 0)) = nI ((j) - 1) from ft_dec (by omega)]
                    exact sm_sub [2, 3, 0] rfl (ih4 ((j) - 1) (by omega) (by omega) _ I63)
                  · have I65 := I33.set (k := (nI e).toNatClampNeg) (v := .int (nI 1)) k36 ⟨_, rfl⟩
                    obtain ⟨a67, r66, k68, e69⟩ := I65.get ho hE (37)
                    have k68 : κ a67 = (63, 2) := k68
                    have I70 := I65.set (k := (nI e).toNatClampNeg) (v := .int (nI 0)) k68 ⟨_, rfl⟩
                    obtain ⟨a72, r71, k73, e74⟩ := I70.get ho hE (38)
                    have k73 : κ a72 = (64, 2) := k73
                    have I75 := I70.set (k := (nI e).toNatClampNeg) (v := narrow .boolean (.int (nI 1))) k73 ⟨_, rfl⟩
                    obtain ⟨a77, r76, k78, e79⟩ := I75.get ho hE (39)
                    have k78 : κ a77 = (65, 2) := k78
                    obtain ⟨a81, r80, k82, e83⟩ := I75.get ho hE (10)
                    have k82 : κ a81 = (36, 2) := k82
                    obtain ⟨x85, r84⟩ := I75.get k82 e83 ((nI e).toNatClampNeg)
                    refine ft_run_ok k_M_missing 22 _ _ _ _ [.ref a67, .ref a72, .ref a77, .ref a81, .long (x85)] rfl ⟨I33.Kd k36 rfl, I33.B k36, I33.vi k36 (by omega) (by decide), I65.K ho, r66, I65.Kd k68 rfl, I65.B k68, I65.vi k68 (by omega) (by decide), I70.K ho, r71, I70.Kd k73 rfl, I70.B k73, I70.vi k73 (by omega) (by decide), I75.K ho, r76, I75.K ho, r80, I75.Kd k82 rfl, I75.vi k82 (by omega) (by decide), r84, trivial⟩ ?_
                    refine r_callS (as := [.long ((x85) - (lN 1))]) (r := [.int (nI e), .ref a77]) k_M_missing rfl z_M_around rfl (Nat.le_of_ble_eq_true rfl) (Nat.le_of_ble_eq_true rfl) (Nat.le_of_ble_eq_true rfl) (Nat.le_of_ble_eq_true rfl) (t_M_around) ?_
                    rintro v h' ⟨⟨n86, b87, rfl⟩, rfl⟩
                    have I88 := I75.set (k := (nI e).toNatClampNeg) (v := .long (lN n86)) k78 ⟨_, rfl⟩
                    refine ft_run_ok k_M_missing 3 _ _ _ _ [] rfl ⟨I75.Kd k78 rfl, I75.B k78, I75.vi k78 (by omega) (by decide), trivial⟩ ?_
                    rw [show ((nI j) + Int32.ofInt (Int.negSucc 0)) = nI ((j) - 1) from ft_dec (by omega)]
                    exact sm_sub [2, 3, 0] rfl (ih4 ((j) - 1) (by omega) (by omega) _ I88)
                · have I90 := I12.set (k := (nI e).toNatClampNeg) (v := .int (nI 2)) k29 ⟨_, rfl⟩
                  obtain ⟨a92, r91, k93, e94⟩ := I90.get ho hE (34)
                  have k93 : κ a92 = (60, 2) := k93
                  refine ft_run_ok k_M_missing 8 _ _ _ _ [.ref a92] rfl ⟨I12.Kd k29 rfl, I12.B k29, I12.vi k29 (by omega) (by decide), I90.K ho, r91, trivial⟩ ?_
                  refine r_icmp k_M_missing rfl rfl (fun c95 => ?_) (fun c95 => ?_)
                  · have I97 := I90.set (k := (nI e).toNatClampNeg) (v := .int ((x26) / (nI 2))) k93 ⟨_, rfl⟩
                    obtain ⟨a99, r98, k100, e101⟩ := I97.get ho hE (37)
                    have k100 : κ a99 = (63, 2) := k100
                    have I102 := I97.set (k := (nI e).toNatClampNeg) (v := .int (nI 0)) k100 ⟨_, rfl⟩
                    obtain ⟨a104, r103, k105, e106⟩ := I102.get ho hE (38)
                    have k105 : κ a104 = (64, 2) := k105
                    have I107 := I102.set (k := (nI e).toNatClampNeg) (v := narrow .boolean (.int (nI 1))) k105 ⟨_, rfl⟩
                    obtain ⟨a109, r108, k110, e111⟩ := I107.get ho hE (39)
                    have k110 : κ a109 = (65, 2) := k110
                    obtain ⟨a113, r112, k114, e115⟩ := I107.get ho hE (10)
                    have k114 : κ a113 = (36, 2) := k114
                    obtain ⟨x117, r116⟩ := I107.get k114 e115 ((nI e).toNatClampNeg)
                    refine ft_run_ok k_M_missing 21 _ _ _ _ [.ref a99, .ref a104, .ref a109, .ref a113, .long (x117)] rfl ⟨I90.Kd k93 rfl, I90.B k93, I90.vi k93 (by omega) (by decide), I97.K ho, r98, I97.Kd k100 rfl, I97.B k100, I97.vi k100 (by omega) (by decide), I102.K ho, r103, I102.Kd k105 rfl, I102.B k105, I102.vi k105 (by omega) (by decide), I107.K ho, r108, I107.K ho, r112, I107.Kd k114 rfl, I107.vi k114 (by omega) (by decide), r116, trivial⟩ ?_
                    refine r_callS (as := [.long ((x117) - (lN 1))]) (r := [.int (nI e), .ref a109]) k_M_missing rfl z_M_around rfl (Nat.le_of_ble_eq_true rfl) (Nat.le_of_ble_eq_true rfl) (Nat.le_of_ble_eq_true rfl) (Nat.le_of_ble_eq_true rfl) (t_M_around) ?_
                    rintro v h' ⟨⟨n118, b119, rfl⟩, rfl⟩
                    have I120 := I107.set (k := (nI e).toNatClampNeg) (v := .long (lN n118)) k110 ⟨_, rfl⟩
                    refine ft_run_ok k_M_missing 3 _ _ _ _ [] rfl ⟨I107.Kd k110 rfl, I107.B k110, I107.vi k110 (by omega) (by decide), trivial⟩ ?_
                    rw [show ((nI j) + Int32.ofInt (Int.negSucc 0)) = nI ((j) - 1) from ft_dec (by omega)]
                    exact sm_sub [2, 3, 0] rfl (ih4 ((j) - 1) (by omega) (by omega) _ I120)
                  · have I122 := I90.set (k := (nI e).toNatClampNeg) (v := .int (nI 1)) k93 ⟨_, rfl⟩
                    obtain ⟨a124, r123, k125, e126⟩ := I122.get ho hE (37)
                    have k125 : κ a124 = (63, 2) := k125
                    have I127 := I122.set (k := (nI e).toNatClampNeg) (v := .int (nI 0)) k125 ⟨_, rfl⟩
                    obtain ⟨a129, r128, k130, e131⟩ := I127.get ho hE (38)
                    have k130 : κ a129 = (64, 2) := k130
                    have I132 := I127.set (k := (nI e).toNatClampNeg) (v := narrow .boolean (.int (nI 1))) k130 ⟨_, rfl⟩
                    obtain ⟨a134, r133, k135, e136⟩ := I132.get ho hE (39)
                    have k135 : κ a134 = (65, 2) := k135
                    obtain ⟨a138, r137, k139, e140⟩ := I132.get ho hE (10)
                    have k139 : κ a138 = (36, 2) := k139
                    obtain ⟨x142, r141⟩ := I132.get k139 e140 ((nI e).toNatClampNeg)
                    refine ft_run_ok k_M_missing 22 _ _ _ _ [.ref a124, .ref a129, .ref a134, .ref a138, .long (x142)] rfl ⟨I90.Kd k93 rfl, I90.B k93, I90.vi k93 (by omega) (by decide), I122.K ho, r123, I122.Kd k125 rfl, I122.B k125, I122.vi k125 (by omega) (by decide), I127.K ho, r128, I127.Kd k130 rfl, I127.B k130, I127.vi k130 (by omega) (by decide), I132.K ho, r133, I132.K ho, r137, I132.Kd k139 rfl, I132.vi k139 (by omega) (by decide), r141, trivial⟩ ?_
                    refine r_callS (as := [.long ((x142) - (lN 1))]) (r := [.int (nI e), .ref a134]) k_M_missing rfl z_M_around rfl (Nat.le_of_ble_eq_true rfl) (Nat.le_of_ble_eq_true rfl) (Nat.le_of_ble_eq_true rfl) (Nat.le_of_ble_eq_true rfl) (t_M_around) ?_
                    rintro v h' ⟨⟨n143, b144, rfl⟩, rfl⟩
                    have I145 := I132.set (k := (nI e).toNatClampNeg) (v := .long (lN n143)) k135 ⟨_, rfl⟩
                    refine ft_run_ok k_M_missing 3 _ _ _ _ [] rfl ⟨I132.Kd k135 rfl, I132.B k135, I132.vi k135 (by omega) (by decide), trivial⟩ ?_
                    rw [show ((nI j) + Int32.ofInt (Int.negSucc 0)) = nI ((j) - 1) from ft_dec (by omega)]
                    exact sm_sub [2, 3, 0] rfl (ih4 ((j) - 1) (by omega) (by omega) _ I145)
              · obtain ⟨a148, r147, k149, e150⟩ := I12.get ho hE (39)
                have k149 : κ a148 = (65, 2) := k149
                obtain ⟨x152, r151⟩ := I12.get k149 e150 ((nI e).toNatClampNeg)
                refine ft_run_ok k_M_missing 5 _ _ _ _ [.ref a148, .long (x152)] rfl ⟨I12.K ho, r147, I12.Kd k149 rfl, I12.vi k149 (by omega) (by decide), r151, trivial⟩ ?_
                refine r_callS (as := [.long (y3), .long (x152)]) (r := []) k_M_missing rfl z_M_after rfl (Nat.le_of_ble_eq_true rfl) (Nat.le_of_ble_eq_true rfl) (Nat.le_of_ble_eq_true rfl) (Nat.le_of_ble_eq_true rfl) (t_M_after) ?_
                rintro v h' ⟨⟨n153, b154, rfl⟩, rfl⟩
                refine r_if k_M_missing rfl rfl (fun c155 => ?_) (fun c155 => ?_)
                · have g156 := ft_eq0 (a := n153) (by omega) c155
                  refine ft_run_ok k_M_missing 2 _ _ _ _ [] rfl trivial ?_
                  rw [show ((nI j) + Int32.ofInt (Int.negSucc 0)) = nI ((j) - 1) from ft_dec (by omega)]
                  exact sm_sub [1, 2, 0] rfl (ih4 ((j) - 1) (by omega) (by omega) _ I12)
                · have g157 := ft_ne0 (a := n153) c155
                  obtain ⟨a159, r158, k160, e161⟩ := I12.get ho hE (34)
                  have k160 : κ a159 = (60, 2) := k160
                  obtain ⟨x163, r162⟩ := I12.get k160 e161 ((nI e).toNatClampNeg)
                  obtain ⟨a165, r164, k166, e167⟩ := I12.get ho hE (35)
                  have k166 : κ a165 = (61, 2) := k166
                  refine ft_run_ok k_M_missing 12 _ _ _ _ [.ref a159, .int (x163), .ref a165] rfl ⟨I12.K ho, r158, I12.Kd k160 rfl, I12.vi k160 (by omega) (by decide), r162, (by decide), I12.K ho, r164, trivial⟩ ?_
                  refine r_icmp k_M_missing rfl rfl (fun c168 => ?_) (fun c168 => ?_)
                  · have I170 := I12.set (k := (nI e).toNatClampNeg) (v := .int ((x163) / (nI 2))) k166 ⟨_, rfl⟩
                    obtain ⟨a172, r171, k173, e174⟩ := I170.get ho hE (34)
                    have k173 : κ a172 = (60, 2) := k173
                    refine ft_run_ok k_M_missing 7 _ _ _ _ [.ref a172] rfl ⟨I12.Kd k166 rfl, I12.B k166, I12.vi k166 (by omega) (by decide), I170.K ho, r171, trivial⟩ ?_
                    refine r_icmp k_M_missing rfl rfl (fun c175 => ?_) (fun c175 => ?_)
                    · have I177 := I170.set (k := (nI e).toNatClampNeg) (v := .int ((x163) / (nI 2))) k173 ⟨_, rfl⟩
                      obtain ⟨a179, r178, k180, e181⟩ := I177.get ho hE (37)
                      have k180 : κ a179 = (63, 2) := k180
                      have I182 := I177.set (k := (nI e).toNatClampNeg) (v := .int (nI 0)) k180 ⟨_, rfl⟩
                      obtain ⟨a184, r183, k185, e186⟩ := I182.get ho hE (38)
                      have k185 : κ a184 = (64, 2) := k185
                      have I187 := I182.set (k := (nI e).toNatClampNeg) (v := narrow .boolean (.int (nI 1))) k185 ⟨_, rfl⟩
                      obtain ⟨a189, r188, k190, e191⟩ := I187.get ho hE (39)
                      have k190 : κ a189 = (65, 2) := k190
                      obtain ⟨a193, r192, k194, e195⟩ := I187.get ho hE (10)
                      have k194 : κ a193 = (36, 2) := k194
                      obtain ⟨x197, r196⟩ := I187.get k194 e195 ((nI e).toNatClampNeg)
                      refine ft_run_ok k_M_missing 21 _ _ _ _ [.ref a179, .ref a184, .ref a189, .ref a193, .long (x197)] rfl ⟨I170.Kd k173 rfl, I170.B k173, I170.vi k173 (by omega) (by decide), I177.K ho, r178, I177.Kd k180 rfl, I177.B k180, I177.vi k180 (by omega) (by decide), I182.K ho, r183, I182.Kd k185 rfl, I182.B k185, I182.vi k185 (by omega) (by decide), I187.K ho, r188, I187.K ho, r192, I187.Kd k194 rfl, I187.vi k194 (by omega) (by decide), r196, trivial⟩ ?_
                      refine r_callS (as := [.long ((x197) - (lN 1))]) (r := [.int (nI e), .ref a189]) k_M_missing rfl z_M_around rfl (Nat.le_of_ble_eq_true rfl) (Nat.le_of_ble_eq_true rfl) (Nat.le_of_ble_eq_true rfl) (Nat.le_of_ble_eq_true rfl) (t_M_around) ?_
                      rintro v h' ⟨⟨n198, b199, rfl⟩, rfl⟩
                      have I200 := I187.set (k := (nI e).toNatClampNeg) (v := .long (lN n198)) k190 ⟨_, rfl⟩
                      refine ft_run_ok k_M_missing 3 _ _ _ _ [] rfl ⟨I187.Kd k190 rfl, I187.B k190, I187.vi k190 (by omega) (by decide), trivial⟩ ?_
                      rw [show ((nI j) + Int32.ofInt (Int.negSucc 0)) = nI ((j) - 1) from ft_dec (by omega)]
                      exact sm_sub [2, 3, 0] rfl (ih4 ((j) - 1) (by omega) (by omega) _ I200)
                    · have I202 := I170.set (k := (nI e).toNatClampNeg) (v := .int (nI 1)) k173 ⟨_, rfl⟩
                      obtain ⟨a204, r203, k205, e206⟩ := I202.get ho hE (37)
                      have k205 : κ a204 = (63, 2) := k205
                      have I207 := I202.set (k := (nI e).toNatClampNeg) (v := .int (nI 0)) k205 ⟨_, rfl⟩
                      obtain ⟨a209, r208, k210, e211⟩ := I207.get ho hE (38)
                      have k210 : κ a209 = (64, 2) := k210
                      have I212 := I207.set (k := (nI e).toNatClampNeg) (v := narrow .boolean (.int (nI 1))) k210 ⟨_, rfl⟩
                      obtain ⟨a214, r213, k215, e216⟩ := I212.get ho hE (39)
                      have k215 : κ a214 = (65, 2) := k215
                      obtain ⟨a218, r217, k219, e220⟩ := I212.get ho hE (10)
                      have k219 : κ a218 = (36, 2) := k219
                      obtain ⟨x222, r221⟩ := I212.get k219 e220 ((nI e).toNatClampNeg)
                      refine ft_run_ok k_M_missing 22 _ _ _ _ [.ref a204, .ref a209, .ref a214, .ref a218, .long (x222)] rfl ⟨I170.Kd k173 rfl, I170.B k173, I170.vi k173 (by omega) (by decide), I202.K ho, r203, I202.Kd k205 rfl, I202.B k205, I202.vi k205 (by omega) (by decide), I207.K ho, r208, I207.Kd k210 rfl, I207.B k210, I207.vi k210 (by omega) (by decide), I212.K ho, r213, I212.K ho, r217, I212.Kd k219 rfl, I212.vi k219 (by omega) (by decide), r221, trivial⟩ ?_
                      refine r_callS (as := [.long ((x222) - (lN 1))]) (r := [.int (nI e), .ref a214]) k_M_missing rfl z_M_around rfl (Nat.le_of_ble_eq_true rfl) (Nat.le_of_ble_eq_true rfl) (Nat.le_of_ble_eq_true rfl) (Nat.le_of_ble_eq_true rfl) (t_M_around) ?_
                      rintro v h' ⟨⟨n223, b224, rfl⟩, rfl⟩
                      have I225 := I212.set (k := (nI e).toNatClampNeg) (v := .long (lN n223)) k215 ⟨_, rfl⟩
                      refine ft_run_ok k_M_missing 3 _ _ _ _ [] rfl ⟨I212.Kd k215 rfl, I212.B k215, I212.vi k215 (by omega) (by decide), trivial⟩ ?_
                      rw [show ((nI j) + Int32.ofInt (Int.negSucc 0)) = nI ((j) - 1) from ft_dec (by omega)]
                      exact sm_sub [2, 3, 0] rfl (ih4 ((j) - 1) (by omega) (by omega) _ I225)
                  · have I227 := I12.set (k := (nI e).toNatClampNeg) (v := .int (nI 2)) k166 ⟨_, rfl⟩
                    obtain ⟨a229, r228, k230, e231⟩ := I227.get ho hE (34)
                    have k230 : κ a229 = (60, 2) := k230
                    refine ft_run_ok k_M_missing 8 _ _ _ _ [.ref a229] rfl ⟨I12.Kd k166 rfl, I12.B k166, I12.vi k166 (by omega) (by decide), I227.K ho, r228, trivial⟩ ?_
                    refine r_icmp k_M_missing rfl rfl (fun c232 => ?_) (fun c232 => ?_)
                    · have I234 := I227.set (k := (nI e).toNatClampNeg) (v := .int ((x163) / (nI 2))) k230 ⟨_, rfl⟩
                      obtain ⟨a236, r235, k237, e238⟩ := I234.get ho hE (37)
                      have k237 : κ a236 = (63, 2) := k237
                      have I239 := I234.set (k := (nI e).toNatClampNeg) (v := .int (nI 0)) k237 ⟨_, rfl⟩
                      obtain ⟨a241, r240, k242, e243⟩ := I239.get ho hE (38)
                      have k242 : κ a241 = (64, 2) := k242
                      have I244 := I239.set (k := (nI e).toNatClampNeg) (v := narrow .boolean (.int (nI 1))) k242 ⟨_, rfl⟩
                      obtain ⟨a246, r245, k247, e248⟩ := I244.get ho hE (39)
                      have k247 : κ a246 = (65, 2) := k247
                      obtain ⟨a250, r249, k251, e252⟩ := I244.get ho hE (10)
                      have k251 : κ a250 = (36, 2) := k251
                      obtain ⟨x254, r253⟩ := I244.get k251 e252 ((nI e).toNatClampNeg)
                      refine ft_run_ok k_M_missing 21 _ _ _ _ [.ref a236, .ref a241, .ref a246, .ref a250, .long (x254)] rfl ⟨I227.Kd k230 rfl, I227.B k230, I227.vi k230 (by omega) (by decide), I234.K ho, r235, I234.Kd k237 rfl, I234.B k237, I234.vi k237 (by omega) (by decide), I239.K ho, r240, I239.Kd k242 rfl, I239.B k242, I239.vi k242 (by omega) (by decide), I244.K ho, r245, I244.K ho, r249, I244.Kd k251 rfl, I244.vi k251 (by omega) (by decide), r253, trivial⟩ ?_
                      refine r_callS (as := [.long ((x254) - (lN 1))]) (r := [.int (nI e), .ref a246]) k_M_missing rfl z_M_around rfl (Nat.le_of_ble_eq_true rfl) (Nat.le_of_ble_eq_true rfl) (Nat.le_of_ble_eq_true rfl) (Nat.le_of_ble_eq_true rfl) (t_M_around) ?_
                      rintro v h' ⟨⟨n255, b256, rfl⟩, rfl⟩
                      have I257 := I244.set (k := (nI e).toNatClampNeg) (v := .long (lN n255)) k247 ⟨_, rfl⟩
                      refine ft_run_ok k_M_missing 3 _ _ _ _ [] rfl ⟨I244.Kd k247 rfl, I244.B k247, I244.vi k247 (by omega) (by decide), trivial⟩ ?_
                      rw [show ((nI j) + Int32.ofInt (Int.negSucc 0)) = nI ((j) - 1) from ft_dec (by omega)]
                      exact sm_sub [2, 3, 0] rfl (ih4 ((j) - 1) (by omega) (by omega) _ I257)
                    · have I259 := I227.set (k := (nI e).toNatClampNeg) (v := .int (nI 1)) k230 ⟨_, rfl⟩
                      obtain ⟨a261, r260, k262, e263⟩ := I259.get ho hE (37)
                      have k262 : κ a261 = (63, 2) := k262
                      have I264 := I259.set (k := (nI e).toNatClampNeg) (v := .int (nI 0)) k262 ⟨_, rfl⟩
                      obtain ⟨a266, r265, k267, e268⟩ := I264.get ho hE (38)
                      have k267 : κ a266 = (64, 2) := k267
                      have I269 := I264.set (k := (nI e).toNatClampNeg) (v := narrow .boolean (.int (nI 1))) k267 ⟨_, rfl⟩
                      obtain ⟨a271, r270, k272, e273⟩ := I269.get ho hE (39)
                      have k272 : κ a271 = (65, 2) := k272
                      obtain ⟨a275, r274, k276, e277⟩ := I269.get ho hE (10)
                      have k276 : κ a275 = (36, 2) := k276
                      obtain ⟨x279, r278⟩ := I269.get k276 e277 ((nI e).toNatClampNeg)
                      refine ft_run_ok k_M_missing 22 _ _ _ _ [.ref a261, .ref a266, .ref a271, .ref a275, .long (x279)] rfl ⟨I227.Kd k230 rfl, I227.B k230, I227.vi k230 (by omega) (by decide), I259.K ho, r260, I259.Kd k262 rfl, I259.B k262, I259.vi k262 (by omega) (by decide), I264.K ho, r265, I264.Kd k267 rfl, I264.B k267, I264.vi k267 (by omega) (by decide), I269.K ho, r270, I269.K ho, r274, I269.Kd k276 rfl, I269.vi k276 (by omega) (by decide), r278, trivial⟩ ?_
                      refine r_callS (as := [.long ((x279) - (lN 1))]) (r := [.int (nI e), .ref a271]) k_M_missing rfl z_M_around rfl (Nat.le_of_ble_eq_true rfl) (Nat.le_of_ble_eq_true rfl) (Nat.le_of_ble_eq_true rfl) (Nat.le_of_ble_eq_true rfl) (t_M_around) ?_
                      rintro v h' ⟨⟨n280, b281, rfl⟩, rfl⟩
                      have I282 := I269.set (k := (nI e).toNatClampNeg) (v := .long (lN n280)) k272 ⟨_, rfl⟩
                      refine ft_run_ok k_M_missing 3 _ _ _ _ [] rfl ⟨I269.Kd k272 rfl, I269.B k272, I269.vi k272 (by omega) (by decide), trivial⟩ ?_
                      rw [show ((nI j) + Int32.ofInt (Int.negSucc 0)) = nI ((j) - 1) from ft_dec (by omega)]
                      exact sm_sub [2, 3, 0] rfl (ih4 ((j) - 1) (by omega) (by omega) _ I282)
          · have g283 := ft_gt0 (a := i) (Int32.not_le.mp c1)
            obtain ⟨a285, r284, k286, e287⟩ := I.get ho hE (10)
            have k286 : κ a285 = (36, 2) := k286
            obtain ⟨x289, r288⟩ := I.get k286 e287 ((nI e).toNatClampNeg)
            refine ft_run_ok k_M_missing 7 _ _ _ _ [.ref a285, .long (x289)] rfl ⟨I.K ho, r284, I.Kd k286 rfl, I.vi k286 (by omega) (by decide), r288, trivial⟩ ?_
            refine r_callS (as := [.long ((x289) - ((nI i).toInt64))]) (r := []) k_M_missing rfl z_M_around rfl (Nat.le_of_ble_eq_true rfl) (Nat.le_of_ble_eq_true rfl) (Nat.le_of_ble_eq_true rfl) (Nat.le_of_ble_eq_true rfl) (t_M_around) ?_
            rintro v h' ⟨⟨n290, b291, rfl⟩, rfl⟩
            refine ft_run_ok k_M_missing 5 _ _ _ _ [] rfl trivial ?_
            refine r_callV (as := [.int (nI e), .long (lN n290)]) (a := o) (ci := 11) (r := [.int (y5)]) k_M_missing rfl z_M_isOwn rfl (by decide) rfl (I.K ho) (Nat.le_of_ble_eq_true rfl) (Nat.le_of_ble_eq_true rfl) (Nat.le_of_ble_eq_true rfl) (Nat.le_of_ble_eq_true rfl) (t_M_isOwn I ho hE (e := e) rfl (by omega)) ?_
            rintro v h' ⟨⟨n292, b293, rfl⟩, rfl⟩
            refine r_if k_M_missing rfl rfl (fun c294 => ?_) (fun c294 => ?_)
            · have g295 := ft_eq0 (a := n292) (by omega) c294
              refine ft_run_ok k_M_missing 5 _ _ _ _ [] rfl trivial ?_
              rw [show ((nI i) + Int32.ofInt (Int.negSucc 0)) = nI ((i) - 1) from ft_dec (by omega)]
              exact sm_sub [3, 4, 5, 6, 1, 0] rfl (ih52 (y3) ((y5) + (nI 0)) ((i) - 1) (by omega) (by omega) _ I)
            · have g296 := ft_ne0 (a := n292) c294
              obtain ⟨a298, r297, k299, e300⟩ := I.get ho hE (17)
              have k299 : κ a298 = (43, 512) := k299
              refine ft_run_ok k_M_missing 4 _ _ _ _ [.ref a298] rfl ⟨I.K ho, r297, trivial⟩ ?_
              refine r_callS (as := [.int (nI e), .long (lN n290)]) (r := [.ref a298, .int (y5)]) k_M_missing rfl z_M_at rfl (Nat.le_of_ble_eq_true rfl) (Nat.le_of_ble_eq_true rfl) (Nat.le_of_ble_eq_true rfl) (Nat.le_of_ble_eq_true rfl) (t_M_at (e := e) rfl (by omega)) ?_
              rintro v h' ⟨⟨n301, b302, rfl⟩, rfl⟩
              obtain ⟨x304, r303⟩ := I.get k299 e300 ((nI n301).toNatClampNeg)
              refine ft_run_ok k_M_missing 2 _ _ _ _ [.int (x304)] rfl ⟨I.Kd k299 rfl, I.vi k299 (by omega) (by decide), r303, trivial⟩ ?_
              refine r_icmp k_M_missing rfl rfl (fun c305 => ?_) (fun c305 => ?_)
              · refine ft_run_ok k_M_missing 5 _ _ _ _ [] rfl trivial ?_
                rw [show ((nI i) + Int32.ofInt (Int.negSucc 0)) = nI ((i) - 1) from ft_dec (by omega)]
                exact sm_sub [3, 4, 5, 6, 1, 0] rfl (ih52 (y3) ((y5) + (nI 0)) ((i) - 1) (by omega) (by omega) _ I)
              · refine ft_run_ok k_M_missing 6 _ _ _ _ [] rfl trivial ?_
                rw [show ((nI i) + Int32.ofInt (Int.negSucc 0)) = nI ((i) - 1) from ft_dec (by omega)]
                exact sm_sub [3, 4, 5, 6, 1, 0] rfl (ih52 (y3) ((y5) + (nI 1)) ((i) - 1) (by omega) (by omega) _ I)
      refine ft_run_ok k_M_missing 1 _ _ _ _ [] rfl trivial ?_
      refine r_if k_M_missing rfl rfl (fun c308 => ?_) (fun c308 => ?_)
      · have g309 := ft_le0 (a := j) (by omega) c308
        exact r_ret (v := none) k_M_missing rfl trivial (Nat.le_of_ble_eq_true rfl) (Nat.le_of_ble_eq_true rfl) ⟨rfl, I⟩
      · have g310 := ft_gt0 (a := j) (Int32.not_le.mp c308)
        obtain ⟨a312, r311, k313, e314⟩ := I.get ho hE (10)
        have k313 : κ a312 = (36, 2) := k313
        obtain ⟨x316, r315⟩ := I.get k313 e314 ((nI e).toNatClampNeg)
        refine ft_run_ok k_M_missing 7 _ _ _ _ [.ref a312, .long (x316)] rfl ⟨I.K ho, r311, I.Kd k313 rfl, I.vi k313 (by omega) (by decide), r315, trivial⟩ ?_
        refine r_callS (as := [.long ((x316) - ((nI j).toInt64))]) (r := []) k_M_missing rfl z_M_around rfl (Nat.le_of_ble_eq_true rfl) (Nat.le_of_ble_eq_true rfl) (Nat.le_of_ble_eq_true rfl) (Nat.le_of_ble_eq_true rfl) (t_M_around) ?_
        rintro v h' ⟨⟨n317, b318, rfl⟩, rfl⟩
        refine ft_run_ok k_M_missing 4 _ _ _ _ [] rfl trivial ?_
        refine r_callV (as := [.int (nI e), .long (lN n317)]) (a := o) (ci := 11) (r := []) k_M_missing rfl z_M_isOwn rfl (by decide) rfl (I.K ho) (Nat.le_of_ble_eq_true rfl) (Nat.le_of_ble_eq_true rfl) (Nat.le_of_ble_eq_true rfl) (Nat.le_of_ble_eq_true rfl) (t_M_isOwn I ho hE (e := e) rfl (by omega)) ?_
        rintro v h' ⟨⟨n319, b320, rfl⟩, rfl⟩
        refine r_if k_M_missing rfl rfl (fun c321 => ?_) (fun c321 => ?_)
        · have g322 := ft_eq0 (a := n319) (by omega) c321
          refine ft_run_ok k_M_missing 2 _ _ _ _ [] rfl trivial ?_
          rw [show ((nI j) + Int32.ofInt (Int.negSucc 0)) = nI ((j) - 1) from ft_dec (by omega)]
          exact sm_sub [2, 3, 0] rfl (ih4 ((j) - 1) (by omega) (by omega) _ I)
        · have g323 := ft_ne0 (a := n319) c321
          obtain ⟨a325, r324, k326, e327⟩ := I.get ho hE (17)
          have k326 : κ a325 = (43, 512) := k326
          refine ft_run_ok k_M_missing 4 _ _ _ _ [.ref a325] rfl ⟨I.K ho, r324, trivial⟩ ?_
          refine r_callS (as := [.int (nI e), .long (lN n317)]) (r := [.ref a325]) k_M_missing rfl z_M_at rfl (Nat.le_of_ble_eq_true rfl) (Nat.le_of_ble_eq_true rfl) (Nat.le_of_ble_eq_true rfl) (Nat.le_of_ble_eq_true rfl) (t_M_at (e := e) rfl (by omega)) ?_
          rintro v h' ⟨⟨n328, b329, rfl⟩, rfl⟩
          obtain ⟨x331, r330⟩ := I.get k326 e327 ((nI n328).toNatClampNeg)
          refine ft_run_ok k_M_missing 2 _ _ _ _ [.int (x331)] rfl ⟨I.Kd k326 rfl, I.vi k326 (by omega) (by decide), r330, trivial⟩ ?_
          refine r_icmp k_M_missing rfl rfl (fun c332 => ?_) (fun c332 => ?_)
          · refine ft_run_ok k_M_missing 2 _ _ _ _ [] rfl trivial ?_
            rw [show ((nI j) + Int32.ofInt (Int.negSucc 0)) = nI ((j) - 1) from ft_dec (by omega)]
            exact sm_sub [2, 3, 0] rfl (ih4 ((j) - 1) (by omega) (by omega) _ I)
          · refine ft_run_ok k_M_missing 6 _ _ _ _ [] rfl trivial ?_
            rw [show ((nI j) - (nI 1)) = nI ((j) - (1)) from by simp only [nI_add, pk_mul, pk_sub (show 1 ≤ j by omega)]]
            exact sm_sub [3, 4, 5, 2, 1, 0] rfl (L52 _ (lN n317) (nI 0) ((j) - (1)) (by omega) (Nat.lt_succ_self _) _ I)
  refine ft_run_ok k_M_missing 2 _ _ _ _ [] rfl trivial ?_
  exact sm_sub [1, 2, 0] rfl (L4 _ (255) (by omega) (Nat.lt_succ_self _) _ I)
set_option maxRecDepth 100000 in
theorem t_M_tooLong {o : Nat} {e : Nat} {x_e : Int32} (I : Iv D κ n E P h) (ho : κ o = (kd_M, 0)) (hE : ¬ E o) (q_e : x_e = nI e) (h_e : e < 2) : sm D y_M_tooLong 0 (lv_args 0 [.ref o, .int x_e]) [] h 0 0 (fun v h' => (v = none) ∧ Iv D κ n E P h') := by
  subst q_e
  have L31 : ∀ (t31 : Nat) (j : Nat), j ≤ 256 → 256 - j < t31 → ∀ h : ft_H, Iv D κ n E P h → sm D y_M_tooLong 31 [(0, .ref o), (1, .int (nI e)), (2, .int (nI j))] [] h 0 0 (fun v h' => (v = none) ∧ Iv D κ n E P h') := by
    intro t31
    induction t31 with
    | zero => intro j f31_0 ht31; exact absurd ht31 (Nat.not_lt_zero _)
    | succ t31 ih31 =>
      intro j f31_0 ht31 h I
      refine ft_run_ok k_M_tooLong 2 _ _ _ _ [] rfl trivial ?_
      refine r_icmp k_M_tooLong rfl rfl (fun c1 => ?_) (fun c1 => ?_)
      · have g2 := ft_le (a := 256) (b := j) (by omega) (by omega) c1
        obtain ⟨a4, r3, k5, e6⟩ := I.get ho hE (34)
        have k5 : κ a4 = (60, 2) := k5
        obtain ⟨x8, r7⟩ := I.get k5 e6 ((nI e).toNatClampNeg)
        obtain ⟨a10, r9, k11, e12⟩ := I.get ho hE (35)
        have k11 : κ a10 = (61, 2) := k11
        refine ft_run_ok k_M_tooLong 12 _ _ _ _ [.ref a4, .int (x8), .ref a10] rfl ⟨I.K ho, r3, I.Kd k5 rfl, I.vi k5 (by omega) (by decide), r7, (by decide), I.K ho, r9, trivial⟩ ?_
        refine r_icmp k_M_tooLong rfl rfl (fun c13 => ?_) (fun c13 => ?_)
        · have I15 := I.set (k := (nI e).toNatClampNeg) (v := .int ((x8) / (nI 2))) k11 ⟨_, rfl⟩
          obtain ⟨a17, r16, k18, e19⟩ := I15.get ho hE (34)
          have k18 : κ a17 = (60, 2) := k18
          have I20 := I15.set (k := (nI e).toNatClampNeg) (v := .int (nI 1)) k18 ⟨_, rfl⟩
          obtain ⟨a22, r21, k23, e24⟩ := I20.get ho hE (37)
          have k23 : κ a22 = (63, 2) := k23
          have I25 := I20.set (k := (nI e).toNatClampNeg) (v := .int (nI 0)) k23 ⟨_, rfl⟩
          obtain ⟨a27, r26, k28, e29⟩ := I25.get ho hE (38)
          have k28 : κ a27 = (64, 2) := k28
          have I30 := I25.set (k := (nI e).toNatClampNeg) (v := narrow .boolean (.int (nI 1))) k28 ⟨_, rfl⟩
          obtain ⟨a32, r31, k33, e34⟩ := I30.get ho hE (39)
          have k33 : κ a32 = (65, 2) := k33
          obtain ⟨a36, r35, k37, e38⟩ := I30.get ho hE (10)
          have k37 : κ a36 = (36, 2) := k37
          obtain ⟨x40, r39⟩ := I30.get k37 e38 ((nI e).toNatClampNeg)
          refine ft_run_ok k_M_tooLong 26 _ _ _ _ [.ref a17, .ref a22, .ref a27, .ref a32, .ref a36, .long (x40)] rfl ⟨I.Kd k11 rfl, I.B k11, I.vi k11 (by omega) (by decide), I15.K ho, r16, I15.Kd k18 rfl, I15.B k18, I15.vi k18 (by omega) (by decide), I20.K ho, r21, I20.Kd k23 rfl, I20.B k23, I20.vi k23 (by omega) (by decide), I25.K ho, r26, I25.Kd k28 rfl, I25.B k28, I25.vi k28 (by omega) (by decide), I30.K ho, r31, I30.K ho, r35, I30.Kd k37 rfl, I30.vi k37 (by omega) (by decide), r39, trivial⟩ ?_
          refine r_callS (as := [.long ((x40) - (lN 1))]) (r := [.int (nI e), .ref a32]) k_M_tooLong rfl z_M_around rfl (Nat.le_of_ble_eq_true rfl) (Nat.le_of_ble_eq_true rfl) (Nat.le_of_ble_eq_true rfl) (Nat.le_of_ble_eq_true rfl) (t_M_around) ?_
          rintro v h' ⟨⟨n41, b42, rfl⟩, rfl⟩
          have I43 := I30.set (k := (nI e).toNatClampNeg) (v := .long (lN n41)) k33 ⟨_, rfl⟩
          obtain ⟨a45, r44, k46, e47⟩ := I43.get ho hE (36)
          have k46 : κ a45 = (62, 2) := k46
          obtain ⟨a49, r48, k50, e51⟩ := I43.get ho hE (36)
          have k50 : κ a49 = (62, 2) := k50
          obtain ⟨x53, r52⟩ := I43.get k50 e51 ((nI e).toNatClampNeg)
          refine ft_run_ok k_M_tooLong 11 _ _ _ _ [.ref a45, .ref a49, .int (x53)] rfl ⟨I30.Kd k33 rfl, I30.B k33, I30.vi k33 (by omega) (by decide), I43.K ho, r44, I43.K ho, r48, I43.Kd k50 rfl, I43.vi k50 (by omega) (by decide), r52, trivial⟩ ?_
          refine r_icmp k_M_tooLong rfl rfl (fun c54 => ?_) (fun c54 => ?_)
          · obtain ⟨a57, r56, k58, e59⟩ := I43.get ho hE (36)
            have k58 : κ a57 = (62, 2) := k58
            obtain ⟨x61, r60⟩ := I43.get k58 e59 ((nI e).toNatClampNeg)
            have I62 := I43.set (k := (nI e).toNatClampNeg) (v := .int ((nI 2) * (x61))) k46 ⟨_, rfl⟩
            obtain ⟨a64, r63, k65, e66⟩ := I62.get ho hE (40)
            have k65 : κ a64 = (66, 2) := k65
            have r67 := I62.get ho hE (1)
            have I68 := I62.set (k := (nI e).toNatClampNeg) (v := .int (nI (P 1))) k65 ⟨_, rfl⟩
            refine ft_run_ok k_M_tooLong 13 _ _ _ _ [.ref a57, .int (x61), .ref a64, .int (nI (P 1))] rfl ⟨I43.K ho, r56, I43.Kd k58 rfl, I43.vi k58 (by omega) (by decide), r60, I43.Kd k46 rfl, I43.B k46, I43.vi k46 (by omega) (by decide), I62.K ho, r63, I62.K ho, r67, I62.Kd k65 rfl, I62.B k65, I62.vi k65 (by omega) (by decide), trivial⟩ ?_
            exact r_ret (v := none) k_M_tooLong rfl trivial (Nat.le_of_ble_eq_true rfl) (Nat.le_of_ble_eq_true rfl) ⟨rfl, I68⟩
          · have I70 := I43.set (k := (nI e).toNatClampNeg) (v := .int (nI 64)) k46 ⟨_, rfl⟩
            obtain ⟨a72, r71, k73, e74⟩ := I70.get ho hE (40)
            have k73 : κ a72 = (66, 2) := k73
            have r75 := I70.get ho hE (1)
            have I76 := I70.set (k := (nI e).toNatClampNeg) (v := .int (nI (P 1))) k73 ⟨_, rfl⟩
            refine ft_run_ok k_M_tooLong 9 _ _ _ _ [.ref a72, .int (nI (P 1))] rfl ⟨I43.Kd k46 rfl, I43.B k46, I43.vi k46 (by omega) (by decide), I70.K ho, r71, I70.K ho, r75, I70.Kd k73 rfl, I70.B k73, I70.vi k73 (by omega) (by decide), trivial⟩ ?_
            exact r_ret (v := none) k_M_tooLong rfl trivial (Nat.le_of_ble_eq_true rfl) (Nat.le_of_ble_eq_true rfl) ⟨rfl, I76⟩
        · have I78 := I.set (k := (nI e).toNatClampNeg) (v := .int (nI 2)) k11 ⟨_, rfl⟩
          obtain ⟨a80, r79, k81, e82⟩ := I78.get ho hE (34)
          have k81 : κ a80 = (60, 2) := k81
          have I83 := I78.set (k := (nI e).toNatClampNeg) (v := .int (nI 1)) k81 ⟨_, rfl⟩
          obtain ⟨a85, r84, k86, e87⟩ := I83.get ho hE (37)
          have k86 : κ a85 = (63, 2) := k86
          have I88 := I83.set (k := (nI e).toNatClampNeg) (v := .int (nI 0)) k86 ⟨_, rfl⟩
          obtain ⟨a90, r89, k91, e92⟩ := I88.get ho hE (38)
          have k91 : κ a90 = (64, 2) := k91
          have I93 := I88.set (k := (nI e).toNatClampNeg) (v := narrow .boolean (.int (nI 1))) k91 ⟨_, rfl⟩
          obtain ⟨a95, r94, k96, e97⟩ := I93.get ho hE (39)
          have k96 : κ a95 = (65, 2) := k96
          obtain ⟨a99, r98, k100, e101⟩ := I93.get ho hE (10)
          have k100 : κ a99 = (36, 2) := k100
          obtain ⟨x103, r102⟩ := I93.get k100 e101 ((nI e).toNatClampNeg)
          refine ft_run_ok k_M_tooLong 27 _ _ _ _ [.ref a80, .ref a85, .ref a90, .ref a95, .ref a99, .long (x103)] rfl ⟨I.Kd k11 rfl, I.B k11, I.vi k11 (by omega) (by decide), I78.K ho, r79, I78.Kd k81 rfl, I78.B k81, I78.vi k81 (by omega) (by decide), I83.K ho, r84, I83.Kd k86 rfl, I83.B k86, I83.vi k86 (by omega) (by decide), I88.K ho, r89, I88.Kd k91 rfl, I88.B k91, I88.vi k91 (by omega) (by decide), I93.K ho, r94, I93.K ho, r98, I93.Kd k100 rfl, I93.vi k100 (by omega) (by decide), r102, trivial⟩ ?_
          refine r_callS (as := [.long ((x103) - (lN 1))]) (r := [.int (nI e), .ref a95]) k_M_tooLong rfl z_M_around rfl (Nat.le_of_ble_eq_true rfl) (Nat.le_of_ble_eq_true rfl) (Nat.le_of_ble_eq_true rfl) (Nat.le_of_ble_eq_true rfl) (t_M_around) ?_
          rintro v h' ⟨⟨n104, b105, rfl⟩, rfl⟩
          have I106 := I93.set (k := (nI e).toNatClampNeg) (v := .long (lN n104)) k96 ⟨_, rfl⟩
          obtain ⟨a108, r107, k109, e110⟩ := I106.get ho hE (36)
          have k109 : κ a108 = (62, 2) := k109
          obtain ⟨a112, r111, k113, e114⟩ := I106.get ho hE (36)
          have k113 : κ a112 = (62, 2) := k113
          obtain ⟨x116, r115⟩ := I106.get k113 e114 ((nI e).toNatClampNeg)
          refine ft_run_ok k_M_tooLong 11 _ _ _ _ [.ref a108, .ref a112, .int (x116)] rfl ⟨I93.Kd k96 rfl, I93.B k96, I93.vi k96 (by omega) (by decide), I106.K ho, r107, I106.K ho, r111, I106.Kd k113 rfl, I106.vi k113 (by omega) (by decide), r115, trivial⟩ ?_
          refine r_icmp k_M_tooLong rfl rfl (fun c117 => ?_) (fun c117 => ?_)
          · obtain ⟨a120, r119, k121, e122⟩ := I106.get ho hE (36)
            have k121 : κ a120 = (62, 2) := k121
            obtain ⟨x124, r123⟩ := I106.get k121 e122 ((nI e).toNatClampNeg)
            have I125 := I106.set (k := (nI e).toNatClampNeg) (v := .int ((nI 2) * (x124))) k109 ⟨_, rfl⟩
            obtain ⟨a127, r126, k128, e129⟩ := I125.get ho hE (40)
            have k128 : κ a127 = (66, 2) := k128
            have r130 := I125.get ho hE (1)
            have I131 := I125.set (k := (nI e).toNatClampNeg) (v := .int (nI (P 1))) k128 ⟨_, rfl⟩
            refine ft_run_ok k_M_tooLong 13 _ _ _ _ [.ref a120, .int (x124), .ref a127, .int (nI (P 1))] rfl ⟨I106.K ho, r119, I106.Kd k121 rfl, I106.vi k121 (by omega) (by decide), r123, I106.Kd k109 rfl, I106.B k109, I106.vi k109 (by omega) (by decide), I125.K ho, r126, I125.K ho, r130, I125.Kd k128 rfl, I125.B k128, I125.vi k128 (by omega) (by decide), trivial⟩ ?_
            exact r_ret (v := none) k_M_tooLong rfl trivial (Nat.le_of_ble_eq_true rfl) (Nat.le_of_ble_eq_true rfl) ⟨rfl, I131⟩
          · have I133 := I106.set (k := (nI e).toNatClampNeg) (v := .int (nI 64)) k109 ⟨_, rfl⟩
            obtain ⟨a135, r134, k136, e137⟩ := I133.get ho hE (40)
            have k136 : κ a135 = (66, 2) := k136
            have r138 := I133.get ho hE (1)
            have I139 := I133.set (k := (nI e).toNatClampNeg) (v := .int (nI (P 1))) k136 ⟨_, rfl⟩
            refine ft_run_ok k_M_tooLong 9 _ _ _ _ [.ref a135, .int (nI (P 1))] rfl ⟨I106.Kd k109 rfl, I106.B k109, I106.vi k109 (by omega) (by decide), I133.K ho, r134, I133.K ho, r138, I133.Kd k136 rfl, I133.B k136, I133.vi k136 (by omega) (by decide), trivial⟩ ?_
            exact r_ret (v := none) k_M_tooLong rfl trivial (Nat.le_of_ble_eq_true rfl) (Nat.le_of_ble_eq_true rfl) ⟨rfl, I139⟩
      · have g140 := ft_nle (a := j) (b := 256) (by omega) (by omega) c1
        obtain ⟨a142, r141, k143, e144⟩ := I.get ho hE (10)
        have k143 : κ a142 = (36, 2) := k143
        obtain ⟨x146, r145⟩ := I.get k143 e144 ((nI e).toNatClampNeg)
        refine ft_run_ok k_M_tooLong 7 _ _ _ _ [.ref a142, .long (x146)] rfl ⟨I.K ho, r141, I.Kd k143 rfl, I.vi k143 (by omega) (by decide), r145, trivial⟩ ?_
        refine r_callS (as := [.long ((x146) - ((nI j).toInt64))]) (r := []) k_M_tooLong rfl z_M_around rfl (Nat.le_of_ble_eq_true rfl) (Nat.le_of_ble_eq_true rfl) (Nat.le_of_ble_eq_true rfl) (Nat.le_of_ble_eq_true rfl) (t_M_around) ?_
        rintro v h' ⟨⟨n147, b148, rfl⟩, rfl⟩
        refine ft_run_ok k_M_tooLong 4 _ _ _ _ [] rfl trivial ?_
        refine r_callV (as := [.int (nI e), .long (lN n147)]) (a := o) (ci := 11) (r := []) k_M_tooLong rfl z_M_isOwn rfl (by decide) rfl (I.K ho) (Nat.le_of_ble_eq_true rfl) (Nat.le_of_ble_eq_true rfl) (Nat.le_of_ble_eq_true rfl) (Nat.le_of_ble_eq_true rfl) (t_M_isOwn I ho hE (e := e) rfl (by omega)) ?_
        rintro v h' ⟨⟨n149, b150, rfl⟩, rfl⟩
        refine r_if k_M_tooLong rfl rfl (fun c151 => ?_) (fun c151 => ?_)
        · have g152 := ft_eq0 (a := n149) (by omega) c151
          refine ft_run_ok k_M_tooLong 2 _ _ _ _ [] rfl trivial ?_
          rw [show ((nI j) + nI 1) = nI (j + 1) from by simp only [nI_add, pk_mul]]
          exact sm_sub [2, 3, 0] rfl (ih31 (j + 1) (by omega) (by omega) _ I)
        · have g153 := ft_ne0 (a := n149) c151
          obtain ⟨a155, r154, k156, e157⟩ := I.get ho hE (17)
          have k156 : κ a155 = (43, 512) := k156
          refine ft_run_ok k_M_tooLong 4 _ _ _ _ [.ref a155] rfl ⟨I.K ho, r154, trivial⟩ ?_
          refine r_callS (as := [.int (nI e), .long (lN n147)]) (r := [.ref a155]) k_M_tooLong rfl z_M_at rfl (Nat.le_of_ble_eq_true rfl) (Nat.le_of_ble_eq_true rfl) (Nat.le_of_ble_eq_true rfl) (Nat.le_of_ble_eq_true rfl) (t_M_at (e := e) rfl (by omega)) ?_
          rintro v h' ⟨⟨n158, b159, rfl⟩, rfl⟩
          obtain ⟨x161, r160⟩ := I.get k156 e157 ((nI n158).toNatClampNeg)
          refine ft_run_ok k_M_tooLong 2 _ _ _ _ [.int (x161)] rfl ⟨I.Kd k156 rfl, I.vi k156 (by omega) (by decide), r160, trivial⟩ ?_
          refine r_icmp k_M_tooLong rfl rfl (fun c162 => ?_) (fun c162 => ?_)
          · refine ft_run_ok k_M_tooLong 2 _ _ _ _ [] rfl trivial ?_
            rw [show ((nI j) + nI 1) = nI (j + 1) from by simp only [nI_add, pk_mul]]
            exact sm_sub [2, 3, 0] rfl (ih31 (j + 1) (by omega) (by omega) _ I)
          · obtain ⟨a166, r165, k167, e168⟩ := I.get ho hE (17)
            have k167 : κ a166 = (43, 512) := k167
            refine ft_run_ok k_M_tooLong 4 _ _ _ _ [.ref a166] rfl ⟨I.K ho, r165, trivial⟩ ?_
            refine r_callS (as := [.int (nI e), .long (lN n147)]) (r := [.ref a166]) k_M_tooLong rfl z_M_at rfl (Nat.le_of_ble_eq_true rfl) (Nat.le_of_ble_eq_true rfl) (Nat.le_of_ble_eq_true rfl) (Nat.le_of_ble_eq_true rfl) (t_M_at (e := e) rfl (by omega)) ?_
            rintro v h' ⟨⟨n169, b170, rfl⟩, rfl⟩
            have I171 := I.set (k := (nI n169).toNatClampNeg) (v := .int (nI 3)) k167 ⟨_, rfl⟩
            refine ft_run_ok k_M_tooLong 4 _ _ _ _ [] rfl ⟨I.Kd k167 rfl, I.B k167, I.vi k167 (by omega) (by decide), trivial⟩ ?_
            rw [show ((nI j) + nI 1) = nI (j + 1) from by simp only [nI_add, pk_mul]]
            exact sm_sub [2, 3, 0] rfl (ih31 (j + 1) (by omega) (by omega) _ I171)
  refine ft_run_ok k_M_tooLong 2 _ _ _ _ [] rfl trivial ?_
  refine r_callV (as := [.int (nI e)]) (a := o) (ci := 11) (r := []) k_M_tooLong rfl z_M_pipe rfl (by decide) rfl (I.K ho) (Nat.le_of_ble_eq_true rfl) (Nat.le_of_ble_eq_true rfl) (Nat.le_of_ble_eq_true rfl) (Nat.le_of_ble_eq_true rfl) (t_M_pipe I ho hE (e := e) rfl (by omega)) ?_
  rintro v h' ⟨⟨x172, rfl⟩, rfl⟩
  refine r_if k_M_tooLong rfl rfl (fun c173 => ?_) (fun c173 => ?_)
  · exact r_ret (v := none) k_M_tooLong rfl trivial (Nat.le_of_ble_eq_true rfl) (Nat.le_of_ble_eq_true rfl) ⟨rfl, I⟩
  · have r176 := I.get ho hE (1)
    obtain ⟨a178, r177, k179, e180⟩ := I.get ho hE (40)
    have k179 : κ a178 = (66, 2) := k179
    obtain ⟨x182, r181⟩ := I.get k179 e180 ((nI e).toNatClampNeg)
    obtain ⟨a184, r183, k185, e186⟩ := I.get ho hE (36)
    have k185 : κ a184 = (62, 2) := k185
    obtain ⟨x188, r187⟩ := I.get k185 e186 ((nI e).toNatClampNeg)
    refine ft_run_ok k_M_tooLong 11 _ _ _ _ [.int (nI (P 1)), .ref a178, .int (x182), .ref a184, .int (x188)] rfl ⟨I.K ho, r176, I.K ho, r177, I.Kd k179 rfl, I.vi k179 (by omega) (by decide), r181, I.K ho, r183, I.Kd k185 rfl, I.vi k185 (by omega) (by decide), r187, trivial⟩ ?_
    refine r_icmp k_M_tooLong rfl rfl (fun c189 => ?_) (fun c189 => ?_)
    · refine ft_run_ok k_M_tooLong 2 _ _ _ _ [] rfl trivial ?_
      exact sm_sub [1, 2, 0] rfl (L31 _ (1) (by omega) (Nat.lt_succ_self _) _ I)
    · exact r_ret (v := none) k_M_tooLong rfl trivial (Nat.le_of_ble_eq_true rfl) (Nat.le_of_ble_eq_true rfl) ⟨rfl, I⟩
end M3
