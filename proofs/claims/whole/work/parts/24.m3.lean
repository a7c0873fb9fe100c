section M3
variable {D : ft_G} {h : ft_H} {κ : Nat → Nat × Nat} {n : Nat} {E : Nat → Prop} {P : Nat → Nat}
set_option maxRecDepth 100000 in
theorem t_M_meet {o : Nat} {e : Nat} {x_e : Int32} {x : Nat} (I : Iv D κ n E P h) (ho : κ o = (kd_M, 0)) (hE : ¬ E o) (q_e : x_e = nI e) (h_e : e < 2) (h_x : x < 281474976710656) : sm D y_M_meet 0 (lv_args 0 [.ref o, .int x_e, .long (lN x)]) [] h 0 0 (fun v h' => (v = none) ∧ Iv D κ n E P h') := by
  subst q_e
  have L35 : ∀ (t35 : Nat) (k : Nat), 256 * e ≤ k ∧ k ≤ 256 * e + 256 → 256 * e + 256 - k < t35 → ∀ h : ft_H, Iv D κ n E P h → sm D y_M_meet 35 [(0, .ref o), (1, .int (nI e)), (2, .long (lN x)), (4, .int (nI k))] [] h 0 0 (fun v h' => (v = none) ∧ Iv D κ n E P h') := by
    intro t35
    induction t35 with
    | zero => intro k f35_0 ht35; exact absurd ht35 (Nat.not_lt_zero _)
    | succ t35 ih35 =>
      intro k f35_0 ht35 h I
      refine ft_run_ok k_M_meet 6 _ _ _ _ [] rfl trivial ?_
      refine r_icmp k_M_meet rfl rfl (fun c1 => ?_) (fun c1 => ?_)
      · have g2 := ft_le (a := ((256) * (e)) + (256)) (b := k) (by omega) (by omega) (by have q := c1; simp only [ft_cond2, nI_add, pk_mul] at q; exact q)
        obtain ⟨a4, r3, k5, e6⟩ := I.get ho hE (16)
        have k5 : κ a4 = (42, 512) := k5
        refine ft_run_ok k_M_meet 4 _ _ _ _ [.ref a4] rfl ⟨I.K ho, r3, trivial⟩ ?_
        refine r_callS (as := [.int (nI e), .long (lN x)]) (r := [.ref a4]) k_M_meet rfl z_M_at rfl (Nat.le_of_ble_eq_true rfl) (Nat.le_of_ble_eq_true rfl) (Nat.le_of_ble_eq_true rfl) (Nat.le_of_ble_eq_true rfl) (t_M_at (e := e) rfl (by omega)) ?_
        rintro v h' ⟨⟨n7, b8, rfl⟩, rfl⟩
        have I9 := I.set (k := (nI n7).toNatClampNeg) (v := narrow .boolean (.int (nI 1))) k5 ⟨_, rfl⟩
        refine ft_run_ok k_M_meet 2 _ _ _ _ [] rfl ⟨I.Kd k5 rfl, I.B k5, I.vi k5 (by omega) (by decide), trivial⟩ ?_
        exact r_ret (v := none) k_M_meet rfl trivial (Nat.le_of_ble_eq_true rfl) (Nat.le_of_ble_eq_true rfl) ⟨rfl, I9⟩
      · have g10 := ft_nle (a := k) (b := ((256) * (e)) + (256)) (by omega) (by omega) (by have q := c1; simp only [ft_cond2, nI_add, pk_mul] at q; exact q)
        obtain ⟨a12, r11, k13, e14⟩ := I.get ho hE (16)
        have k13 : κ a12 = (42, 512) := k13
        have I15 := I.set (k := (nI k).toNatClampNeg) (v := narrow .boolean (.int (nI 0))) k13 ⟨_, rfl⟩
        refine ft_run_ok k_M_meet 7 _ _ _ _ [.ref a12] rfl ⟨I.K ho, r11, I.Kd k13 rfl, I.B k13, I.vi k13 (by omega) (by decide), trivial⟩ ?_
        rw [show ((nI k) + nI 1) = nI (k + 1) from by simp only [nI_add, pk_mul]]
        exact sm_sub [1, 2, 3, 0] rfl (ih35 (k + 1) (by omega) (by omega) _ I15)
  obtain ⟨a17, r16, k18, e19⟩ := I.get ho hE (12)
  have k18 : κ a17 = (38, 2) := k18
  have I20 := I.set (k := (nI e).toNatClampNeg) (v := narrow .boolean (.int (nI 1))) k18 ⟨_, rfl⟩
  obtain ⟨a22, r21, k23, e24⟩ := I20.get ho hE (13)
  have k23 : κ a22 = (39, 2) := k23
  have I25 := I20.set (k := (nI e).toNatClampNeg) (v := .long (lN x)) k23 ⟨x, (show x < 281474976710656 by omega), rfl⟩
  obtain ⟨a27, r26, k28, e29⟩ := I25.get ho hE (14)
  have k28 : κ a27 = (40, 2) := k28
  have I30 := I25.set (k := (nI e).toNatClampNeg) (v := .long (lN x)) k28 ⟨_, rfl⟩
  obtain ⟨a32, r31, k33, e34⟩ := I30.get ho hE (15)
  have k33 : κ a32 = (41, 2) := k33
  have I35 := I30.set (k := (nI e).toNatClampNeg) (v := .long (lN x)) k33 ⟨_, rfl⟩
  refine ft_run_ok k_M_meet 24 _ _ _ _ [.ref a17, .ref a22, .ref a27, .ref a32] rfl ⟨I.K ho, r16, I.Kd k18 rfl, I.B k18, I.vi k18 (by omega) (by decide), I20.K ho, r21, I20.Kd k23 rfl, I20.B k23, I20.vi k23 (by omega) (by decide), I25.K ho, r26, I25.Kd k28 rfl, I25.B k28, I25.vi k28 (by omega) (by decide), I30.K ho, r31, I30.Kd k33 rfl, I30.B k33, I30.vi k33 (by omega) (by decide), trivial⟩ ?_
  rw [show ((nI 256) * (nI e)) = nI ((256) * (e)) from by simp only [nI_add, pk_mul]]
  exact sm_sub [1, 2, 3, 0] rfl (L35 _ ((256) * (e)) (by omega) (Nat.lt_succ_self _) _ I35)
set_option maxRecDepth 100000 in
theorem t_M_isGot {o : Nat} {e : Nat} {x_e : Int32} {x : Int64} (I : Iv D κ n E P h) (ho : κ o = (kd_M, 0)) (hE : ¬ E o) (q_e : x_e = nI e) (h_e : e < 2) : sm D y_M_isGot 0 (lv_args 0 [.ref o, .int x_e, .long x]) [] h 0 0 (fun v h' => (v = none) ∧ Iv D κ n E P h') := by
  subst q_e
  refine ft_run_ok k_M_isGot 2 _ _ _ _ [] rfl trivial ?_
  refine r_callS (as := [.int (nI e), .long (x)]) (r := []) k_M_isGot rfl z_M_at rfl (Nat.le_of_ble_eq_true rfl) (Nat.le_of_ble_eq_true rfl) (Nat.le_of_ble_eq_true rfl) (Nat.le_of_ble_eq_true rfl) (t_M_at (e := e) rfl (by omega)) ?_
  rintro v h' ⟨⟨n1, b2, rfl⟩, rfl⟩
  obtain ⟨a4, r3, k5, e6⟩ := I.get ho hE (18)
  have k5 : κ a4 = (44, 512) := k5
  obtain ⟨x8, r7⟩ := I.get k5 e6 ((nI n1).toNatClampNeg)
  refine ft_run_ok k_M_isGot 5 _ _ _ _ [.ref a4, .int (x8)] rfl ⟨I.K ho, r3, I.Kd k5 rfl, I.vi k5 (by omega) (by decide), r7, trivial⟩ ?_
  refine r_if k_M_isGot rfl rfl (fun c9 => ?_) (fun c9 => ?_)
  · obtain ⟨a12, r11, k13, e14⟩ := I.get ho hE (17)
    have k13 : κ a12 = (43, 512) := k13
    obtain ⟨x16, r15⟩ := I.get k13 e14 ((nI n1).toNatClampNeg)
    refine ft_run_ok k_M_isGot 5 _ _ _ _ [.ref a12, .int (x16)] rfl ⟨I.K ho, r11, I.Kd k13 rfl, I.vi k13 (by omega) (by decide), r15, trivial⟩ ?_
    refine r_icmp k_M_isGot rfl rfl (fun c17 => ?_) (fun c17 => ?_)
    · obtain ⟨a20, r19, k21, e22⟩ := I.get ho hE (17)
      have k21 : κ a20 = (43, 512) := k21
      obtain ⟨x24, r23⟩ := I.get k21 e22 ((nI n1).toNatClampNeg)
      refine ft_run_ok k_M_isGot 5 _ _ _ _ [.ref a20, .int (x24)] rfl ⟨I.K ho, r19, I.Kd k21 rfl, I.vi k21 (by omega) (by decide), r23, trivial⟩ ?_
      refine r_icmp k_M_isGot rfl rfl (fun c25 => ?_) (fun c25 => ?_)
      · exact r_ret (v := none) k_M_isGot rfl trivial (Nat.le_of_ble_eq_true rfl) (Nat.le_of_ble_eq_true rfl) ⟨rfl, I⟩
      · obtain ⟨a29, r28, k30, e31⟩ := I.get ho hE (17)
        have k30 : κ a29 = (43, 512) := k30
        have I32 := I.set (k := (nI n1).toNatClampNeg) (v := .int (nI 2)) k30 ⟨_, rfl⟩
        obtain ⟨a34, r33, k35, e36⟩ := I32.get ho hE (34)
        have k35 : κ a34 = (60, 2) := k35
        obtain ⟨x38, r37⟩ := I32.get k35 e36 ((nI e).toNatClampNeg)
        obtain ⟨a40, r39, k41, e42⟩ := I32.get ho hE (35)
        have k41 : κ a40 = (61, 2) := k41
        obtain ⟨x44, r43⟩ := I32.get k41 e42 ((nI e).toNatClampNeg)
        refine ft_run_ok k_M_isGot 13 _ _ _ _ [.ref a29, .ref a34, .int (x38), .ref a40, .int (x44)] rfl ⟨I.K ho, r28, I.Kd k30 rfl, I.B k30, I.vi k30 (by omega) (by decide), I32.K ho, r33, I32.Kd k35 rfl, I32.vi k35 (by omega) (by decide), r37, I32.K ho, r39, I32.Kd k41 rfl, I32.vi k41 (by omega) (by decide), r43, trivial⟩ ?_
        refine r_icmp k_M_isGot rfl rfl (fun c45 => ?_) (fun c45 => ?_)
        · obtain ⟨a48, r47, k49, e50⟩ := I32.get ho hE (37)
          have k49 : κ a48 = (63, 2) := k49
          obtain ⟨x52, r51⟩ := I32.get k49 e50 ((nI e).toNatClampNeg)
          have I53 := I32.set (k := (nI e).toNatClampNeg) (v := .int ((x52) + (nI 1))) k49 ⟨_, rfl⟩
          obtain ⟨a55, r54, k56, e57⟩ := I53.get ho hE (37)
          have k56 : κ a55 = (63, 2) := k56
          obtain ⟨x59, r58⟩ := I53.get k56 e57 ((nI e).toNatClampNeg)
          obtain ⟨a61, r60, k62, e63⟩ := I53.get ho hE (34)
          have k62 : κ a61 = (60, 2) := k62
          obtain ⟨x65, r64⟩ := I53.get k62 e63 ((nI e).toNatClampNeg)
          refine ft_run_ok k_M_isGot 16 _ _ _ _ [.ref a48, .int (x52), .ref a55, .int (x59), .ref a61, .int (x65)] rfl ⟨I32.K ho, r47, I32.Kd k49 rfl, I32.vi k49 (by omega) (by decide), r51, I32.Kd k49 rfl, I32.B k49, I32.vi k49 (by omega) (by decide), I53.K ho, r54, I53.Kd k56 rfl, I53.vi k56 (by omega) (by decide), r58, I53.K ho, r60, I53.Kd k62 rfl, I53.vi k62 (by omega) (by decide), r64, trivial⟩ ?_
          refine r_icmp k_M_isGot rfl rfl (fun c66 => ?_) (fun c66 => ?_)
          · obtain ⟨a69, r68, k70, e71⟩ := I53.get ho hE (34)
            have k70 : κ a69 = (60, 2) := k70
            obtain ⟨a73, r72, k74, e75⟩ := I53.get ho hE (34)
            have k74 : κ a73 = (60, 2) := k74
            obtain ⟨x77, r76⟩ := I53.get k74 e75 ((nI e).toNatClampNeg)
            refine ft_run_ok k_M_isGot 8 _ _ _ _ [.ref a69, .ref a73, .int (x77)] rfl ⟨I53.K ho, r68, I53.K ho, r72, I53.Kd k74 rfl, I53.vi k74 (by omega) (by decide), r76, trivial⟩ ?_
            refine r_icmp k_M_isGot rfl rfl (fun c78 => ?_) (fun c78 => ?_)
            · obtain ⟨a81, r80, k82, e83⟩ := I53.get ho hE (34)
              have k82 : κ a81 = (60, 2) := k82
              obtain ⟨x85, r84⟩ := I53.get k82 e83 ((nI e).toNatClampNeg)
              have I86 := I53.set (k := (nI e).toNatClampNeg) (v := .int (x85)) k70 ⟨_, rfl⟩
              obtain ⟨a88, r87, k89, e90⟩ := I86.get ho hE (36)
              have k89 : κ a88 = (62, 2) := k89
              have I91 := I86.set (k := (nI e).toNatClampNeg) (v := .int (nI 8)) k89 ⟨_, rfl⟩
              obtain ⟨a93, r92, k94, e95⟩ := I91.get ho hE (40)
              have k94 : κ a93 = (66, 2) := k94
              have r96 := I91.get ho hE (1)
              have I97 := I91.set (k := (nI e).toNatClampNeg) (v := .int (nI (P 1))) k94 ⟨_, rfl⟩
              refine ft_run_ok k_M_isGot 16 _ _ _ _ [.ref a81, .int (x85), .ref a88, .ref a93, .int (nI (P 1))] rfl ⟨I53.K ho, r80, I53.Kd k82 rfl, I53.vi k82 (by omega) (by decide), r84, I53.Kd k70 rfl, I53.B k70, I53.vi k70 (by omega) (by decide), I86.K ho, r87, I86.Kd k89 rfl, I86.B k89, I86.vi k89 (by omega) (by decide), I91.K ho, r92, I91.K ho, r96, I91.Kd k94 rfl, I91.B k94, I91.vi k94 (by omega) (by decide), trivial⟩ ?_
              exact r_ret (v := none) k_M_isGot rfl trivial (Nat.le_of_ble_eq_true rfl) (Nat.le_of_ble_eq_true rfl) ⟨rfl, I97⟩
            · have I99 := I53.set (k := (nI e).toNatClampNeg) (v := .int (nI 60)) k70 ⟨_, rfl⟩
              obtain ⟨a101, r100, k102, e103⟩ := I99.get ho hE (36)
              have k102 : κ a101 = (62, 2) := k102
              have I104 := I99.set (k := (nI e).toNatClampNeg) (v := .int (nI 8)) k102 ⟨_, rfl⟩
              obtain ⟨a106, r105, k107, e108⟩ := I104.get ho hE (40)
              have k107 : κ a106 = (66, 2) := k107
              have r109 := I104.get ho hE (1)
              have I110 := I104.set (k := (nI e).toNatClampNeg) (v := .int (nI (P 1))) k107 ⟨_, rfl⟩
              refine ft_run_ok k_M_isGot 14 _ _ _ _ [.ref a101, .ref a106, .int (nI (P 1))] rfl ⟨I53.Kd k70 rfl, I53.B k70, I53.vi k70 (by omega) (by decide), I99.K ho, r100, I99.Kd k102 rfl, I99.B k102, I99.vi k102 (by omega) (by decide), I104.K ho, r105, I104.K ho, r109, I104.Kd k107 rfl, I104.B k107, I104.vi k107 (by omega) (by decide), trivial⟩ ?_
              exact r_ret (v := none) k_M_isGot rfl trivial (Nat.le_of_ble_eq_true rfl) (Nat.le_of_ble_eq_true rfl) ⟨rfl, I110⟩
          · obtain ⟨a113, r112, k114, e115⟩ := I53.get ho hE (34)
            have k114 : κ a113 = (60, 2) := k114
            obtain ⟨x117, r116⟩ := I53.get k114 e115 ((nI e).toNatClampNeg)
            have I118 := I53.set (k := (nI e).toNatClampNeg) (v := .int ((x117) + (nI 1))) k114 ⟨_, rfl⟩
            obtain ⟨a120, r119, k121, e122⟩ := I118.get ho hE (37)
            have k121 : κ a120 = (63, 2) := k121
            have I123 := I118.set (k := (nI e).toNatClampNeg) (v := .int (nI 0)) k121 ⟨_, rfl⟩
            obtain ⟨a125, r124, k126, e127⟩ := I123.get ho hE (34)
            have k126 : κ a125 = (60, 2) := k126
            obtain ⟨a129, r128, k130, e131⟩ := I123.get ho hE (34)
            have k130 : κ a129 = (60, 2) := k130
            obtain ⟨x133, r132⟩ := I123.get k130 e131 ((nI e).toNatClampNeg)
            refine ft_run_ok k_M_isGot 21 _ _ _ _ [.ref a113, .int (x117), .ref a120, .ref a125, .ref a129, .int (x133)] rfl ⟨I53.K ho, r112, I53.Kd k114 rfl, I53.vi k114 (by omega) (by decide), r116, I53.Kd k114 rfl, I53.B k114, I53.vi k114 (by omega) (by decide), I118.K ho, r119, I118.Kd k121 rfl, I118.B k121, I118.vi k121 (by omega) (by decide), I123.K ho, r124, I123.K ho, r128, I123.Kd k130 rfl, I123.vi k130 (by omega) (by decide), r132, trivial⟩ ?_
            refine r_icmp k_M_isGot rfl rfl (fun c134 => ?_) (fun c134 => ?_)
            · obtain ⟨a137, r136, k138, e139⟩ := I123.get ho hE (34)
              have k138 : κ a137 = (60, 2) := k138
              obtain ⟨x141, r140⟩ := I123.get k138 e139 ((nI e).toNatClampNeg)
              have I142 := I123.set (k := (nI e).toNatClampNeg) (v := .int (x141)) k126 ⟨_, rfl⟩
              obtain ⟨a144, r143, k145, e146⟩ := I142.get ho hE (36)
              have k145 : κ a144 = (62, 2) := k145
              have I147 := I142.set (k := (nI e).toNatClampNeg) (v := .int (nI 8)) k145 ⟨_, rfl⟩
              obtain ⟨a149, r148, k150, e151⟩ := I147.get ho hE (40)
              have k150 : κ a149 = (66, 2) := k150
              have r152 := I147.get ho hE (1)
              have I153 := I147.set (k := (nI e).toNatClampNeg) (v := .int (nI (P 1))) k150 ⟨_, rfl⟩
              refine ft_run_ok k_M_isGot 16 _ _ _ _ [.ref a137, .int (x141), .ref a144, .ref a149, .int (nI (P 1))] rfl ⟨I123.K ho, r136, I123.Kd k138 rfl, I123.vi k138 (by omega) (by decide), r140, I123.Kd k126 rfl, I123.B k126, I123.vi k126 (by omega) (by decide), I142.K ho, r143, I142.Kd k145 rfl, I142.B k145, I142.vi k145 (by omega) (by decide), I147.K ho, r148, I147.K ho, r152, I147.Kd k150 rfl, I147.B k150, I147.vi k150 (by omega) (by decide), trivial⟩ ?_
              exact r_ret (v := none) k_M_isGot rfl trivial (Nat.le_of_ble_eq_true rfl) (Nat.le_of_ble_eq_true rfl) ⟨rfl, I153⟩
            · have I155 := I123.set (k := (nI e).toNatClampNeg) (v := .int (nI 60)) k126 ⟨_, rfl⟩
              obtain ⟨a157, r156, k158, e159⟩ := I155.get ho hE (36)
              have k158 : κ a157 = (62, 2) := k158
              have I160 := I155.set (k := (nI e).toNatClampNeg) (v := .int (nI 8)) k158 ⟨_, rfl⟩
              obtain ⟨a162, r161, k163, e164⟩ := I160.get ho hE (40)
              have k163 : κ a162 = (66, 2) := k163
              have r165 := I160.get ho hE (1)
              have I166 := I160.set (k := (nI e).toNatClampNeg) (v := .int (nI (P 1))) k163 ⟨_, rfl⟩
              refine ft_run_ok k_M_isGot 14 _ _ _ _ [.ref a157, .ref a162, .int (nI (P 1))] rfl ⟨I123.Kd k126 rfl, I123.B k126, I123.vi k126 (by omega) (by decide), I155.K ho, r156, I155.Kd k158 rfl, I155.B k158, I155.vi k158 (by omega) (by decide), I160.K ho, r161, I160.K ho, r165, I160.Kd k163 rfl, I160.B k163, I160.vi k163 (by omega) (by decide), trivial⟩ ?_
              exact r_ret (v := none) k_M_isGot rfl trivial (Nat.le_of_ble_eq_true rfl) (Nat.le_of_ble_eq_true rfl) ⟨rfl, I166⟩
        · obtain ⟨a169, r168, k170, e171⟩ := I32.get ho hE (34)
          have k170 : κ a169 = (60, 2) := k170
          obtain ⟨x173, r172⟩ := I32.get k170 e171 ((nI e).toNatClampNeg)
          have I174 := I32.set (k := (nI e).toNatClampNeg) (v := .int ((x173) + (nI 1))) k170 ⟨_, rfl⟩
          obtain ⟨a176, r175, k177, e178⟩ := I174.get ho hE (34)
          have k177 : κ a176 = (60, 2) := k177
          obtain ⟨a180, r179, k181, e182⟩ := I174.get ho hE (34)
          have k181 : κ a180 = (60, 2) := k181
          obtain ⟨x184, r183⟩ := I174.get k181 e182 ((nI e).toNatClampNeg)
          refine ft_run_ok k_M_isGot 17 _ _ _ _ [.ref a169, .int (x173), .ref a176, .ref a180, .int (x184)] rfl ⟨I32.K ho, r168, I32.Kd k170 rfl, I32.vi k170 (by omega) (by decide), r172, I32.Kd k170 rfl, I32.B k170, I32.vi k170 (by omega) (by decide), I174.K ho, r175, I174.K ho, r179, I174.Kd k181 rfl, I174.vi k181 (by omega) (by decide), r183, trivial⟩ ?_
          refine r_icmp k_M_isGot rfl rfl (fun c185 => ?_) (fun c185 => ?_)
          · obtain ⟨a188, r187, k189, e190⟩ := I174.get ho hE (34)
            have k189 : κ a188 = (60, 2) := k189
            obtain ⟨x192, r191⟩ := I174.get k189 e190 ((nI e).toNatClampNeg)
            have I193 := I174.set (k := (nI e).toNatClampNeg) (v := .int (x192)) k177 ⟨_, rfl⟩
            obtain ⟨a195, r194, k196, e197⟩ := I193.get ho hE (36)
            have k196 : κ a195 = (62, 2) := k196
            have I198 := I193.set (k := (nI e).toNatClampNeg) (v := .int (nI 8)) k196 ⟨_, rfl⟩
            obtain ⟨a200, r199, k201, e202⟩ := I198.get ho hE (40)
            have k201 : κ a200 = (66, 2) := k201
            have r203 := I198.get ho hE (1)
            have I204 := I198.set (k := (nI e).toNatClampNeg) (v := .int (nI (P 1))) k201 ⟨_, rfl⟩
            refine ft_run_ok k_M_isGot 16 _ _ _ _ [.ref a188, .int (x192), .ref a195, .ref a200, .int (nI (P 1))] rfl ⟨I174.K ho, r187, I174.Kd k189 rfl, I174.vi k189 (by omega) (by decide), r191, I174.Kd k177 rfl, I174.B k177, I174.vi k177 (by omega) (by decide), I193.K ho, r194, I193.Kd k196 rfl, I193.B k196, I193.vi k196 (by omega) (by decide), I198.K ho, r199, I198.K ho, r203, I198.Kd k201 rfl, I198.B k201, I198.vi k201 (by omega) (by decide), trivial⟩ ?_
            exact r_ret (v := none) k_M_isGot rfl trivial (Nat.le_of_ble_eq_true rfl) (Nat.le_of_ble_eq_true rfl) ⟨rfl, I204⟩
          · have I206 := I174.set (k := (nI e).toNatClampNeg) (v := .int (nI 60)) k177 ⟨_, rfl⟩
            obtain ⟨a208, r207, k209, e210⟩ := I206.get ho hE (36)
            have k209 : κ a208 = (62, 2) := k209
            have I211 := I206.set (k := (nI e).toNatClampNeg) (v := .int (nI 8)) k209 ⟨_, rfl⟩
            obtain ⟨a213, r212, k214, e215⟩ := I211.get ho hE (40)
            have k214 : κ a213 = (66, 2) := k214
            have r216 := I211.get ho hE (1)
            have I217 := I211.set (k := (nI e).toNatClampNeg) (v := .int (nI (P 1))) k214 ⟨_, rfl⟩
            refine ft_run_ok k_M_isGot 14 _ _ _ _ [.ref a208, .ref a213, .int (nI (P 1))] rfl ⟨I174.Kd k177 rfl, I174.B k177, I174.vi k177 (by omega) (by decide), I206.K ho, r207, I206.Kd k209 rfl, I206.B k209, I206.vi k209 (by omega) (by decide), I211.K ho, r212, I211.K ho, r216, I211.Kd k214 rfl, I211.B k214, I211.vi k214 (by omega) (by decide), trivial⟩ ?_
            exact r_ret (v := none) k_M_isGot rfl trivial (Nat.le_of_ble_eq_true rfl) (Nat.le_of_ble_eq_true rfl) ⟨rfl, I217⟩
    · obtain ⟨a220, r219, k221, e222⟩ := I.get ho hE (17)
      have k221 : κ a220 = (43, 512) := k221
      have I223 := I.set (k := (nI n1).toNatClampNeg) (v := .int (nI 2)) k221 ⟨_, rfl⟩
      refine ft_run_ok k_M_isGot 6 _ _ _ _ [.ref a220] rfl ⟨I.K ho, r219, I.Kd k221 rfl, I.B k221, I.vi k221 (by omega) (by decide), trivial⟩ ?_
      exact r_ret (v := none) k_M_isGot rfl trivial (Nat.le_of_ble_eq_true rfl) (Nat.le_of_ble_eq_true rfl) ⟨rfl, I223⟩
  · obtain ⟨a226, r225, k227, e228⟩ := I.get ho hE (19)
    have k227 : κ a226 = (45, 512) := k227
    obtain ⟨x230, r229⟩ := I.get k227 e228 ((nI n1).toNatClampNeg)
    refine ft_run_ok k_M_isGot 6 _ _ _ _ [.ref a226, .long (x230)] rfl ⟨I.K ho, r225, I.Kd k227 rfl, I.vi k227 (by omega) (by decide), r229, trivial⟩ ?_
    refine r_callS (as := [.long ((x230) + (lN 1))]) (r := []) k_M_isGot rfl z_M_around rfl (Nat.le_of_ble_eq_true rfl) (Nat.le_of_ble_eq_true rfl) (Nat.le_of_ble_eq_true rfl) (Nat.le_of_ble_eq_true rfl) (t_M_around) ?_
    rintro v h' ⟨⟨x231, rfl⟩, rfl⟩
    obtain ⟨a233, r232, k234, e235⟩ := I.get ho hE (15)
    have k234 : κ a233 = (41, 2) := k234
    obtain ⟨x237, r236⟩ := I.get k234 e235 ((nI e).toNatClampNeg)
    refine ft_run_ok k_M_isGot 4 _ _ _ _ [.ref a233, .long (x237)] rfl ⟨I.K ho, r232, I.Kd k234 rfl, I.vi k234 (by omega) (by decide), r236, trivial⟩ ?_
    refine r_callS (as := [.long (x231), .long (x237)]) (r := []) k_M_isGot rfl z_M_after rfl (Nat.le_of_ble_eq_true rfl) (Nat.le_of_ble_eq_true rfl) (Nat.le_of_ble_eq_true rfl) (Nat.le_of_ble_eq_true rfl) (t_M_after) ?_
    rintro v h' ⟨⟨n238, b239, rfl⟩, rfl⟩
    refine r_if k_M_isGot rfl rfl (fun c240 => ?_) (fun c240 => ?_)
    · have g241 := ft_eq0 (a := n238) (by omega) c240
      obtain ⟨a243, r242, k244, e245⟩ := I.get ho hE (17)
      have k244 : κ a243 = (43, 512) := k244
      obtain ⟨x247, r246⟩ := I.get k244 e245 ((nI n1).toNatClampNeg)
      refine ft_run_ok k_M_isGot 5 _ _ _ _ [.ref a243, .int (x247)] rfl ⟨I.K ho, r242, I.Kd k244 rfl, I.vi k244 (by omega) (by decide), r246, trivial⟩ ?_
      refine r_icmp k_M_isGot rfl rfl (fun c248 => ?_) (fun c248 => ?_)
      · obtain ⟨a251, r250, k252, e253⟩ := I.get ho hE (17)
        have k252 : κ a251 = (43, 512) := k252
        obtain ⟨x255, r254⟩ := I.get k252 e253 ((nI n1).toNatClampNeg)
        refine ft_run_ok k_M_isGot 5 _ _ _ _ [.ref a251, .int (x255)] rfl ⟨I.K ho, r250, I.Kd k252 rfl, I.vi k252 (by omega) (by decide), r254, trivial⟩ ?_
        refine r_icmp k_M_isGot rfl rfl (fun c256 => ?_) (fun c256 => ?_)
        · exact r_ret (v := none) k_M_isGot rfl trivial (Nat.le_of_ble_eq_true rfl) (Nat.le_of_ble_eq_true rfl) ⟨rfl, I⟩
        · obtain ⟨a260, r259, k261, e262⟩ := I.get ho hE (17)
          have k261 : κ a260 = (43, 512) := k261
          have I263 := I.set (k := (nI n1).toNatClampNeg) (v := .int (nI 2)) k261 ⟨_, rfl⟩
          obtain ⟨a265, r264, k266, e267⟩ := I263.get ho hE (34)
          have k266 : κ a265 = (60, 2) := k266
          obtain ⟨x269, r268⟩ := I263.get k266 e267 ((nI e).toNatClampNeg)
          obtain ⟨a271, r270, k272, e273⟩ := I263.get ho hE (35)
          have k272 : κ a271 = (61, 2) := k272
          obtain ⟨x275, r274⟩ := I263.get k272 e273 ((nI e).toNatClampNeg)
          refine ft_run_ok k_M_isGot 13 _ _ _ _ [.ref a260, .ref a265, .int (x269), .ref a271, .int (x275)] rfl ⟨I.K ho, r259, I.Kd k261 rfl, I.B k261, I.vi k261 (by omega) (by decide), I263.K ho, r264, I263.Kd k266 rfl, I263.vi k266 (by omega) (by decide), r268, I263.K ho, r270, I263.Kd k272 rfl, I263.vi k272 (by omega) (by decide), r274, trivial⟩ ?_
          refine r_icmp k_M_isGot rfl rfl (fun c276 => ?_) (fun c276 => ?_)
          · obtain ⟨a279, r278, k280, e281⟩ := I263.get ho hE (37)
            have k280 : κ a279 = (63, 2) := k280
            obtain ⟨x283, r282⟩ := I263.get k280 e281 ((nI e).toNatClampNeg)
            have I284 := I263.set (k := (nI e).toNatClampNeg) (v := .int ((x283) + (nI 1))) k280 ⟨_, rfl⟩
            obtain ⟨a286, r285, k287, e288⟩ := I284.get ho hE (37)
            have k287 : κ a286 = (63, 2) := k287
            obtain ⟨x290, r289⟩ := I284.get k287 e288 ((nI e).toNatClampNeg)
            obtain ⟨a292, r291, k293, e294⟩ := I284.get ho hE (34)
            have k293 : κ a292 = (60, 2) := k293
            obtain ⟨x296, r295⟩ := I284.get k293 e294 ((nI e).toNatClampNeg)
            refine ft_run_ok k_M_isGot 16 _ _ _ _ [.ref a279, .int (x283), .ref a286, .int (x290), .ref a292, .int (x296)] rfl ⟨I263.K ho, r278, I263.Kd k280 rfl, I263.vi k280 (by omega) (by decide), r282, I263.Kd k280 rfl, I263.B k280, I263.vi k280 (by omega) (by decide), I284.K ho, r285, I284.Kd k287 rfl, I284.vi k287 (by omega) (by decide), r289, I284.K ho, r291, I284.Kd k293 rfl, I284.vi k293 (by omega) (by decide), r295, trivial⟩ ?_
            refine r_icmp k_M_isGot rfl rfl (fun c297 => ?_) (fun c297 => ?_)
            · obtain ⟨a300, r299, k301, e302⟩ := I284.get ho hE (34)
              have k301 : κ a300 = (60, 2) := k301
              obtain ⟨a304, r303, k305, e306⟩ := I284.get ho hE (34)
              have k305 : κ a304 = (60, 2) := k305
              obtain ⟨x308, r307⟩ := I284.get k305 e306 ((nI e).toNatClampNeg)
              refine ft_run_ok k_M_isGot 8 _ _ _ _ [.ref a300, .ref a304, .int (x308)] rfl ⟨I284.K ho, r299, I284.K ho, r303, I284.Kd k305 rfl, I284.vi k305 (by omega) (by decide), r307, trivial⟩ ?_
              refine r_icmp k_M_isGot rfl rfl (fun c309 => ?_) (fun c309 => ?_)
              · obtain ⟨a312, r311, k313, e314⟩ := I284.get ho hE (34)
                have k313 : κ a312 = (60, 2) := k313
                obtain ⟨x316, r315⟩ := I284.get k313 e314 ((nI e).toNatClampNeg)
                have I317 := I284.set (k := (nI e).toNatClampNeg) (v := .int (x316)) k301 ⟨_, rfl⟩
                obtain ⟨a319, r318, k320, e321⟩ := I317.get ho hE (36)
                have k320 : κ a319 = (62, 2) := k320
                have I322 := I317.set (k := (nI e).toNatClampNeg) (v := .int (nI 8)) k320 ⟨_, rfl⟩
                obtain ⟨a324, r323, k325, e326⟩ := I322.get ho hE (40)
                have k325 : κ a324 = (66, 2) := k325
                have r327 := I322.get ho hE (1)
                have I328 := I322.set (k := (nI e).toNatClampNeg) (v := .int (nI (P 1))) k325 ⟨_, rfl⟩
                refine ft_run_ok k_M_isGot 16 _ _ _ _ [.ref a312, .int (x316), .ref a319, .ref a324, .int (nI (P 1))] rfl ⟨I284.K ho, r311, I284.Kd k313 rfl, I284.vi k313 (by omega) (by decide), r315, I284.Kd k301 rfl, I284.B k301, I284.vi k301 (by omega) (by decide), I317.K ho, r318, I317.Kd k320 rfl, I317.B k320, I317.vi k320 (by omega) (by decide), I322.K ho, r323, I322.K ho, r327, I322.Kd k325 rfl, I322.B k325, I322.vi k325 (by omega) (by decide), trivial⟩ ?_
                exact r_ret (v := none) k_M_isGot rfl trivial (Nat.le_of_ble_eq_true rfl) (Nat.le_of_ble_eq_true rfl) ⟨rfl, I328⟩
              · have I330 := I284.set (k := (nI e).toNatClampNeg) (v := .int (nI 60)) k301 ⟨_, rfl⟩
                obtain ⟨a332, r331, k333, e334⟩ := I330.get ho hE (36)
                have k333 : κ a332 = (62, 2) := k333
                have I335 := I330.set (k := (nI e).toNatClampNeg) (v := .int (nI 8)) k333 ⟨_, rfl⟩
                obtain ⟨a337, r336, k338, e339⟩ := I335.get ho hE (40)
                have k338 : κ a337 = (66, 2) := k338
                have r340 := I335.get ho hE (1)
                have I341 := I335.set (k := (nI e).toNatClampNeg) (v := .int (nI (P 1))) k338 ⟨_, rfl⟩
                refine ft_run_ok k_M_isGot 14 _ _ _ _ [.ref a332, .ref a337, .int (nI (P 1))] rfl ⟨I284.Kd k301 rfl, I284.B k301, I284.vi k301 (by omega) (by decide), I330.K ho, r331, I330.Kd k333 rfl, I330.B k333, I330.vi k333 (by omega) (by decide), I335.K ho, r336, I335.K ho, r340, I335.Kd k338 rfl, I335.B k338, I335.vi k338 (by omega) (by decide), trivial⟩ ?_
                exact r_ret (v := none) k_M_isGot rfl trivial (Nat.le_of_ble_eq_true rfl) (Nat.le_of_ble_eq_true rfl) ⟨rfl, I341⟩
            · obtain ⟨a344, r343, k345, e346⟩ := I284.get ho hE (34)
              have k345 : κ a344 = (60, 2) := k345
              obtain ⟨x348, r347⟩ := I284.get k345 e346 ((nI e).toNatClampNeg)
              have I349 := I284.set (k := (nI e).toNatClampNeg) (v := .int ((x348) + (nI 1))) k345 ⟨_, rfl⟩
              obtain ⟨a351, r350, k352, e353⟩ := I349.get ho hE (37)
              have k352 : κ a351 = (63, 2) := k352
              have I354 := I349.set (k := (nI e).toNatClampNeg) (v := .int (nI 0)) k352 ⟨_, rfl⟩
              obtain ⟨a356, r355, k357, e358⟩ := I354.get ho hE (34)
              have k357 : κ a356 = (60, 2) := k357
              obtain ⟨a360, r359, k361, e362⟩ := I354.get ho hE (34)
              have k361 : κ a360 = (60, 2) := k361
              obtain ⟨x364, r363⟩ := I354.get k361 e362 ((nI e).toNatClampNeg)
              refine ft_run_ok k_M_isGot 21 _ _ _ _ [.ref a344, .int (x348), .ref a351, .ref a356, .ref a360, .int (x364)] rfl ⟨I284.K ho, r343, I284.Kd k345 rfl, I284.vi k345 (by omega) (by decide), r347, I284.Kd k345 rfl, I284.B k345, I284.vi k345 (by omega) (by decide), I349.K ho, r350, I349.Kd k352 rfl, I349.B k352, I349.vi k352 (by omega) (by decide), I354.K ho, r355, I354.K ho, r359, I354.Kd k361 rfl, I354.vi k361 (by omega) (by decide), r363, trivial⟩ ?_
              refine r_icmp k_M_isGot rfl rfl (fun c365 => ?_) (fun c365 => ?_)
              · obtain ⟨a368, r367, k369, e370⟩ := I354.get ho hE (34)
                have k369 : κ a368 = (60, 2) := k369
                obtain ⟨x372, r371⟩ := I354.get k369 e370 ((nI e).toNatClampNeg)
                have I373 := I354.set (k := (nI e).toNatClampNeg) (v := .int (x372)) k357 ⟨_, rfl⟩
                obtain ⟨a375, r374, k376, e377⟩ := I373.get ho hE (36)
                have k376 : κ a375 = (62, 2) := k376
                have I378 := I373.set (k := (nI e).toNatClampNeg) (v := .int (nI 8)) k376 ⟨_, rfl⟩
                obtain ⟨a380, r379, k381, e382⟩ := I378.get ho hE (40)
                have k381 : κ a380 = (66, 2) := k381
                have r383 := I378.get ho hE (1)
                have I384 := I378.set (k := (nI e).toNatClampNeg) (v := .int (nI (P 1))) k381 ⟨_, rfl⟩
                refine ft_run_ok k_M_isGot 16 _ _ _ _ [.ref a368, .int (x372), .ref a375, .ref a380, .int (nI (P 1))] rfl ⟨I354.K ho, r367, I354.Kd k369 rfl, I354.vi k369 (by omega) (by decide), r371, I354.Kd k357 rfl, I354.B k357, I354.vi k357 (by omega) (by decide), I373.K ho, r374, I373.Kd k376 rfl, I373.B k376, I373.vi k376 (by omega) (by decide), I378.K ho, r379, I378.K ho, r383, I378.Kd k381 rfl, I378.B k381, I378.vi k381 (by omega) (by decide), trivial⟩ ?_
                exact r_ret (v := none) k_M_isGot rfl trivial (Nat.le_of_ble_eq_true rfl) (Nat.le_of_ble_eq_true rfl) ⟨rfl, I384⟩
              · have I386 := I354.set (k := (nI e).toNatClampNeg) (v := .int (nI 60)) k357 ⟨_, rfl⟩
                obtain ⟨a388, r387, k389, e390⟩ := I386.get ho hE (36)
                have k389 : κ a388 = (62, 2) := k389
                have I391 := I386.set (k := (nI e).toNatClampNeg) (v := .int (nI 8)) k389 ⟨_, rfl⟩
                obtain ⟨a393, r392, k394, e395⟩ := I391.get ho hE (40)
                have k394 : κ a393 = (66, 2) := k394
                have r396 := I391.get ho hE (1)
                have I397 := I391.set (k := (nI e).toNatClampNeg) (v := .int (nI (P 1))) k394 ⟨_, rfl⟩
                refine ft_run_ok k_M_isGot 14 _ _ _ _ [.ref a388, .ref a393, .int (nI (P 1))] rfl ⟨I354.Kd k357 rfl, I354.B k357, I354.vi k357 (by omega) (by decide), I386.K ho, r387, I386.Kd k389 rfl, I386.B k389, I386.vi k389 (by omega) (by decide), I391.K ho, r392, I391.K ho, r396, I391.Kd k394 rfl, I391.B k394, I391.vi k394 (by omega) (by decide), trivial⟩ ?_
                exact r_ret (v := none) k_M_isGot rfl trivial (Nat.le_of_ble_eq_true rfl) (Nat.le_of_ble_eq_true rfl) ⟨rfl, I397⟩
          · obtain ⟨a400, r399, k401, e402⟩ := I263.get ho hE (34)
            have k401 : κ a400 = (60, 2) := k401
            obtain ⟨x404, r403⟩ := I263.get k401 e402 ((nI e).toNatClampNeg)
            have I405 := I263.set (k := (nI e).toNatClampNeg) (v := .int ((x404) + (nI 1))) k401 ⟨_, rfl⟩
            obtain ⟨a407, r406, k408, e409⟩ := I405.get ho hE (34)
            have k408 : κ a407 = (60, 2) := k408
            obtain ⟨a411, r410, k412, e413⟩ := I405.get ho hE (34)
            have k412 : κ a411 = (60, 2) := k412
            obtain ⟨x415, r414⟩ := I405.get k412 e413 ((nI e).toNatClampNeg)
            refine ft_run_ok k_M_isGot 17 _ _ _ _ [.ref a400, .int (x404), .ref a407, .ref a411, .int (x415)] rfl ⟨I263.K ho, r399, I263.Kd k401 rfl, I263.vi k401 (by omega) (by decide), r403, I263.Kd k401 rfl, I263.B k401, I263.vi k401 (by omega) (by decide), I405.K ho, r406, I405.K ho, r410, I405.Kd k412 rfl, I405.vi k412 (by omega) (by decide), r414, trivial⟩ ?_
            refine r_icmp k_M_isGot rfl rfl (fun c416 => ?_) (fun c416 => ?_)
            · obtain ⟨a419, r418, k420, e421⟩ := I405.get ho hE (34)
              have k420 : κ a419 = (60, 2) := k420
              obtain ⟨x423, r422⟩ := I405.get k420 e421 ((nI e).toNatClampNeg)
              have I424 := I405.set (k := (nI e).toNatClampNeg) (v := .int (x423)) k408 ⟨_, rfl⟩
              obtain ⟨a426, r425, k427, e428⟩ := I424.get ho hE (36)
              have k427 : κ a426 = (62, 2) := k427
              have I429 := I424.set (k := (nI e).toNatClampNeg) (v := .int (nI 8)) k427 ⟨_, rfl⟩
              obtain ⟨a431, r430, k432, e433⟩ := I429.get ho hE (40)
              have k432 : κ a431 = (66, 2) := k432
              have r434 := I429.get ho hE (1)
              have I435 := I429.set (k := (nI e).toNatClampNeg) (v := .int (nI (P 1))) k432 ⟨_, rfl⟩
              refine ft_run_ok k_M_isGot 16 _ _ _ _ [.ref a419, .int (x423), .ref a426, .ref a431, .int (nI (P 1))] rfl ⟨I405.K ho, r418, I405.Kd k420 rfl, I405.vi k420 (by omega) (by decide), r422, I405.Kd k408 rfl, I405.B k408, I405.vi k408 (by omega) (by decide), I424.K ho, r425, I424.Kd k427 rfl, I424.B k427, I424.vi k427 (by omega) (by decide), I429.K ho, r430, I429.K ho, r434, I429.Kd k432 rfl, I429.B k432, I429.vi k432 (by omega) (by decide), trivial⟩ ?_
              exact r_ret (v := none) k_M_isGot rfl trivial (Nat.le_of_ble_eq_true rfl) (Nat.le_of_ble_eq_true rfl) ⟨rfl, I435⟩
            · have I437 := I405.set (k := (nI e).toNatClampNeg) (v := .int (nI 60)) k408 ⟨_, rfl⟩
              obtain ⟨a439, r438, k440, e441⟩ := I437.get ho hE (36)
              have k440 : κ a439 = (62, 2) := k440
              have I442 := I437.set (k := (nI e).toNatClampNeg) (v := .int (nI 8)) k440 ⟨_, rfl⟩
              obtain ⟨a444, r443, k445, e446⟩ := I442.get ho hE (40)
              have k445 : κ a444 = (66, 2) := k445
              have r447 := I442.get ho hE (1)
              have I448 := I442.set (k := (nI e).toNatClampNeg) (v := .int (nI (P 1))) k445 ⟨_, rfl⟩
              refine ft_run_ok k_M_isGot 14 _ _ _ _ [.ref a439, .ref a444, .int (nI (P 1))] rfl ⟨I405.Kd k408 rfl, I405.B k408, I405.vi k408 (by omega) (by decide), I437.K ho, r438, I437.Kd k440 rfl, I437.B k440, I437.vi k440 (by omega) (by decide), I442.K ho, r443, I442.K ho, r447, I442.Kd k445 rfl, I442.B k445, I442.vi k445 (by omega) (by decide), trivial⟩ ?_
              exact r_ret (v := none) k_M_isGot rfl trivial (Nat.le_of_ble_eq_true rfl) (Nat.le_of_ble_eq_true rfl) ⟨rfl, I448⟩
      · obtain ⟨a451, r450, k452, e453⟩ := I.get ho hE (17)
        have k452 : κ a451 = (43, 512) := k452
        have I454 := I.set (k := (nI n1).toNatClampNeg) (v := .int (nI 2)) k452 ⟨_, rfl⟩
        refine ft_run_ok k_M_isGot 6 _ _ _ _ [.ref a451] rfl ⟨I.K ho, r450, I.Kd k452 rfl, I.B k452, I.vi k452 (by omega) (by decide), trivial⟩ ?_
        exact r_ret (v := none) k_M_isGot rfl trivial (Nat.le_of_ble_eq_true rfl) (Nat.le_of_ble_eq_true rfl) ⟨rfl, I454⟩
    · have g455 := ft_ne0 (a := n238) c240
      obtain ⟨a457, r456, k458, e459⟩ := I.get ho hE (15)
      have k458 : κ a457 = (41, 2) := k458
      obtain ⟨a461, r460, k462, e463⟩ := I.get ho hE (19)
      have k462 : κ a461 = (45, 512) := k462
      obtain ⟨x465, r464⟩ := I.get k462 e463 ((nI n1).toNatClampNeg)
      refine ft_run_ok k_M_isGot 9 _ _ _ _ [.ref a457, .ref a461, .long (x465)] rfl ⟨I.K ho, r456, I.K ho, r460, I.Kd k462 rfl, I.vi k462 (by omega) (by decide), r464, trivial⟩ ?_
      refine r_callS (as := [.long ((x465) + (lN 1))]) (r := [.int (nI e), .ref a457]) k_M_isGot rfl z_M_around rfl (Nat.le_of_ble_eq_true rfl) (Nat.le_of_ble_eq_true rfl) (Nat.le_of_ble_eq_true rfl) (Nat.le_of_ble_eq_true rfl) (t_M_around) ?_
      rintro v h' ⟨⟨x466, rfl⟩, rfl⟩
      have I467 := I.set (k := (nI e).toNatClampNeg) (v := .long (x466)) k458 ⟨_, rfl⟩
      obtain ⟨a469, r468, k470, e471⟩ := I467.get ho hE (17)
      have k470 : κ a469 = (43, 512) := k470
      obtain ⟨x473, r472⟩ := I467.get k470 e471 ((nI n1).toNatClampNeg)
      refine ft_run_ok k_M_isGot 6 _ _ _ _ [.ref a469, .int (x473)] rfl ⟨I.Kd k458 rfl, I.B k458, I.vi k458 (by omega) (by decide), I467.K ho, r468, I467.Kd k470 rfl, I467.vi k470 (by omega) (by decide), r472, trivial⟩ ?_
      refine r_icmp k_M_isGot rfl rfl (fun c474 => ?_) (fun c474 => ?_)
      · obtain ⟨a477, r476, k478, e479⟩ := I467.get ho hE (17)
        have k478 : κ a477 = (43, 512) := k478
        obtain ⟨x481, r480⟩ := I467.get k478 e479 ((nI n1).toNatClampNeg)
        refine ft_run_ok k_M_isGot 5 _ _ _ _ [.ref a477, .int (x481)] rfl ⟨I467.K ho, r476, I467.Kd k478 rfl, I467.vi k478 (by omega) (by decide), r480, trivial⟩ ?_
        refine r_icmp k_M_isGot rfl rfl (fun c482 => ?_) (fun c482 => ?_)
        · exact r_ret (v := none) k_M_isGot rfl trivial (Nat.le_of_ble_eq_true rfl) (Nat.le_of_ble_eq_true rfl) ⟨rfl, I467⟩
        · obtain ⟨a486, r485, k487, e488⟩ := I467.get ho hE (17)
          have k487 : κ a486 = (43, 512) := k487
          have I489 := I467.set (k := (nI n1).toNatClampNeg) (v := .int (nI 2)) k487 ⟨_, rfl⟩
          obtain ⟨a491, r490, k492, e493⟩ := I489.get ho hE (34)
          have k492 : κ a491 = (60, 2) := k492
          obtain ⟨x495, r494⟩ := I489.get k492 e493 ((nI e).toNatClampNeg)
          obtain ⟨a497, r496, k498, e499⟩ := I489.get ho hE (35)
          have k498 : κ a497 = (61, 2) := k498
          obtain ⟨x501, r500⟩ := I489.get k498 e499 ((nI e).toNatClampNeg)
          refine ft_run_ok k_M_isGot 13 _ _ _ _ [.ref a486, .ref a491, .int (x495), .ref a497, .int (x501)] rfl ⟨I467.K ho, r485, I467.Kd k487 rfl, I467.B k487, I467.vi k487 (by omega) (by decide), I489.K ho, r490, I489.Kd k492 rfl, I489.vi k492 (by omega) (by decide), r494, I489.K ho, r496, I489.Kd k498 rfl, I489.vi k498 (by omega) (by decide), r500, trivial⟩ ?_
          refine r_icmp k_M_isGot rfl rfl (fun c502 => ?_) (fun c502 => ?_)
          · obtain ⟨a505, r504, k506, e507⟩ := I489.get ho hE (37)
            have k506 : κ a505 = (63, 2) := k506
            obtain ⟨x509, r508⟩ := I489.get k506 e507 ((nI e).toNatClampNeg)
            have I510 := I489.set (k := (nI e).toNatClampNeg) (v := .int ((x509) + (nI 1))) k506 ⟨_, rfl⟩
            obtain ⟨a512, r511, k513, e514⟩ := I510.get ho hE (37)
            have k513 : κ a512 = (63, 2) := k513
            obtain ⟨x516, r515⟩ := I510.get k513 e514 ((nI e).toNatClampNeg)
            obtain ⟨a518, r517, k519, e520⟩ := I510.get ho hE (34)
            have k519 : κ a518 = (60, 2) := k519
            obtain ⟨x522, r521⟩ := I510.get k519 e520 ((nI e).toNatClampNeg)
            refine ft_run_ok k_M_isGot 16 _ _ _ _ [.ref a505, .int (x509), .ref a512, .int (x516), .ref a518, .int (x522)] rfl ⟨I489.K ho, r504, I489.Kd k506 rfl, I489.vi k506 (by omega) (by decide), r508, I489.Kd k506 rfl, I489.B k506, I489.vi k506 (by omega) (by decide), I510.K ho, r511, I510.Kd k513 rfl, I510.vi k513 (by omega) (by decide), r515, I510.K ho, r517, I510.Kd k519 rfl, I510.vi k519 (by omega) (by decide), r521, trivial⟩ ?_
            refine r_icmp k_M_isGot rfl rfl (fun c523 => ?_) (fun c523 => ?_)
            · obtain ⟨a526, r525, k527, e528⟩ := I510.get ho hE (34)
              have k527 : κ a526 = (60, 2) := k527
              obtain ⟨a530, r529, k531, e532⟩ := I510.get ho hE (34)
              have k531 : κ a530 = (60, 2) := k531
              obtain ⟨x534, r533⟩ := I510.get k531 e532 ((nI e).toNatClampNeg)
              refine ft_run_ok k_M_isGot 8 _ _ _ _ [.ref a526, .ref a530, .int (x534)] rfl ⟨I510.K ho, r525, I510.K ho, r529, I510.Kd k531 rfl, I510.vi k531 (by omega) (by decide), r533, trivial⟩ ?_
              refine r_icmp k_M_isGot rfl rfl (fun c535 => ?_) (fun c535 => ?_)
              · obtain ⟨a538, r537, k539, e540⟩ := I510.get ho hE (34)
                have k539 : κ a538 = (60, 2) := k539
                obtain ⟨x542, r541⟩ := I510.get k539 e540 ((nI e).toNatClampNeg)
                have I543 := I510.set (k := (nI e).toNatClampNeg) (v := .int (x542)) k527 ⟨_, rfl⟩
                obtain ⟨a545, r544, k546, e547⟩ := I543.get ho hE (36)
                have k546 : κ a545 = (62, 2) := k546
                have I548 := I543.set (k := (nI e).toNatClampNeg) (v := .int (nI 8)) k546 ⟨_, rfl⟩
                obtain ⟨a550, r549, k551, e552⟩ := I548.get ho hE (40)
                have k551 : κ a550 = (66, 2) := k551
                have r553 := I548.get ho hE (1)
                have I554 := I548.set (k := (nI e).toNatClampNeg) (v := .int (nI (P 1))) k551 ⟨_, rfl⟩
                refine ft_run_ok k_M_isGot 16 _ _ _ _ [.ref a538, .int (x542), .ref a545, .ref a550, .int (nI (P 1))] rfl ⟨I510.K ho, r537, I510.Kd k539 rfl, I510.vi k539 (by omega) (by decide), r541, I510.Kd k527 rfl, I510.B k527, I510.vi k527 (by omega) (by decide), I543.K ho, r544, I543.Kd k546 rfl, I543.B k546, I543.vi k546 (by omega) (by decide), I548.K ho, r549, I548.K ho, r553, I548.Kd k551 rfl, I548.B k551, I548.vi k551 (by omega) (by decide), trivial⟩ ?_
                exact r_ret (v := none) k_M_isGot rfl trivial (Nat.le_of_ble_eq_true rfl) (Nat.le_of_ble_eq_true rfl) ⟨rfl, I554⟩
              · have I556 := I510.set (k := (nI e).toNatClampNeg) (v := .int (nI 60)) k527 ⟨_, rfl⟩
                obtain ⟨a558, r557, k559, e560⟩ := I556.get ho hE (36)
                have k559 : κ a558 = (62, 2) := k559
                have I561 := I556.set (k := (nI e).toNatClampNeg) (v := .int (nI 8)) k559 ⟨_, rfl⟩
                obtain ⟨a563, r562, k564, e565⟩ := I561.get ho hE (40)
                have k564 : κ a563 = (66, 2) := k564
                have r566 := I561.get ho hE (1)
                have I567 := I561.set (k := (nI e).toNatClampNeg) (v := .int (nI (P 1))) k564 ⟨_, rfl⟩
                refine ft_run_ok k_M_isGot 14 _ _ _ _ [.ref a558, .ref a563, .int (nI (P 1))] rfl ⟨I510.Kd k527 rfl, I510.B k527, I510.vi k527 (by omega) (by decide), I556.K ho, r557, I556.Kd k559 rfl, I556.B k559, I556.vi k559 (by omega) (by decide), I561.K ho, r562, I561.K ho, r566, I561.Kd k564 rfl, I561.B k564, I561.vi k564 (by omega) (by decide), trivial⟩ ?_
                exact r_ret (v := none) k_M_isGot rfl trivial (Nat.le_of_ble_eq_true rfl) (Nat.le_of_ble_eq_true rfl) ⟨rfl, I567⟩
            · obtain ⟨a570, r569, k571, e572⟩ := I510.get ho hE (34)
              have k571 : κ a570 = (60, 2) := k571
              obtain ⟨x574, r573⟩ := I510.get k571 e572 ((nI e).toNatClampNeg)
              have I575 := I510.set (k := (nI e).toNatClampNeg) (v := .int ((x574) + (nI 1))) k571 ⟨_, rfl⟩
              obtain ⟨a577, r576, k578, e579⟩ := I575.get ho hE (37)
              have k578 : κ a577 = (63, 2) := k578
              have I580 := I575.set (k := (nI e).toNatClampNeg) (v := .int (nI 0)) k578 ⟨_, rfl⟩
              obtain ⟨a582, r581, k583, e584⟩ := I580.get ho hE (34)
              have k583 : κ a582 = (60, 2) := k583
              obtain ⟨a586, r585, k587, e588⟩ := I580.get ho hE (34)
              have k587 : κ a586 = (60, 2) := k587
              obtain ⟨x590, r589⟩ := I580.get k587 e588 ((nI e).toNatClampNeg)
              refine ft_run_ok k_M_isGot 21 _ _ _ _ [.ref a570, .int (x574), .ref a577, .ref a582, .ref a586, .int (x590)] rfl ⟨I510.K ho, r569, I510.Kd k571 rfl, I510.vi k571 (by omega) (by decide), r573, I510.Kd k571 rfl, I510.B k571, I510.vi k571 (by omega) (by decide), I575.K ho, r576, I575.Kd k578 rfl, I575.B k578, I575.vi k578 (by omega) (by decide), I580.K ho, r581, I580.K ho, r585, I580.Kd k587 rfl, I580.vi k587 (by omega) (by decide), r589, trivial⟩ ?_
              refine r_icmp k_M_isGot rfl rfl (fun c591 => ?_) (fun c591 => ?_)
              · obtain ⟨a594, r593, k595, e596⟩ := I580.get ho hE (34)
                have k595 : κ a594 = (60, 2) := k595
                obtain ⟨x598, r597⟩ := I580.get k595 e596 ((nI e).toNatClampNeg)
                have I599 := I580.set (k := (nI e).toNatClampNeg) (v := .int (x598)) k583 ⟨_, rfl⟩
                obtain ⟨a601, r600, k602, e603⟩ := I599.get ho hE (36)
                have k602 : κ a601 = (62, 2) := k602
                have I604 := I599.set (k := (nI e).toNatClampNeg) (v := .int (nI 8)) k602 ⟨_, rfl⟩
                obtain ⟨a606, r605, k607, e608⟩ := I604.get ho hE (40)
                have k607 : κ a606 = (66, 2) := k607
                have r609 := I604.get ho hE (1)
                have I610 := I604.set (k := (nI e).toNatClampNeg) (v := .int (nI (P 1))) k607 ⟨_, rfl⟩
                refine ft_run_ok k_M_isGot 16 _ _ _ _ [.ref a594, .int (x598), .ref a601, .ref a606, .int (nI (P 1))] rfl ⟨I580.K ho, r593, I580.Kd k595 rfl, I580.vi k595 (by omega) (by decide), r597, I580.Kd k583 rfl, I580.B k583, I580.vi k583 (by omega) (by decide), I599.K ho, r600, I599.Kd k602 rfl, I599.B k602, I599.vi k602 (by omega) (by decide), I604.K ho, r605, I604.K ho, r609, I604.Kd k607 rfl, I604.B k607, I604.vi k607 (by omega) (by decide), trivial⟩ ?_
                exact r_ret (v := none) k_M_isGot rfl trivial (Nat.le_of_ble_eq_true rfl) (Nat.le_of_ble_eq_true rfl) ⟨rfl, I610⟩
              · have I612 := I580.set (k := (nI e).toNatClampNeg) (v := .int (nI 60)) k583 ⟨_, rfl⟩
                obtain ⟨a614, r613, k615, e616⟩ := I612.get ho hE (36)
                have k615 : κ a614 = (62, 2) := k615
                have I617 := I612.set (k := (nI e).toNatClampNeg) (v := .int (nI 8)) k615 ⟨_, rfl⟩
                obtain ⟨a619, r618, k620, e621⟩ := I617.get ho hE (40)
                have k620 : κ a619 = (66, 2) := k620
                have r622 := I617.get ho hE (1)
                have I623 := I617.set (k := (nI e).toNatClampNeg) (v := .int (nI (P 1))) k620 ⟨_, rfl⟩
                refine ft_run_ok k_M_isGot 14 _ _ _ _ [.ref a614, .ref a619, .int (nI (P 1))] rfl ⟨I580.Kd k583 rfl, I580.B k583, I580.vi k583 (by omega) (by decide), I612.K ho, r613, I612.Kd k615 rfl, I612.B k615, I612.vi k615 (by omega) (by decide), I617.K ho, r618, I617.K ho, r622, I617.Kd k620 rfl, I617.B k620, I617.vi k620 (by omega) (by decide), trivial⟩ ?_
                exact r_ret (v := none) k_M_isGot rfl trivial (Nat.le_of_ble_eq_true rfl) (Nat.le_of_ble_eq_true rfl) ⟨rfl, I623⟩
          · obtain ⟨a626, r625, k627, e628⟩ := I489.get ho hE (34)
            have k627 : κ a626 = (60, 2) := k627
            obtain ⟨x630, r629⟩ := I489.get k627 e628 ((nI e).toNatClampNeg)
            have I631 := I489.set (k := (nI e).toNatClampNeg) (v := .int ((x630) + (nI 1))) k627 ⟨_, rfl⟩
            obtain ⟨a633, r632, k634, e635⟩ := I631.get ho hE (34)
            have k634 : κ a633 = (60, 2) := k634
            obtain ⟨a637, r636, k638, e639⟩ := I631.get ho hE (34)
            have k638 : κ a637 = (60, 2) := k638
            obtain ⟨x641, r640⟩ := I631.get k638 e639 ((nI e).toNatClampNeg)
            refine ft_run_ok k_M_isGot 17 _ _ _ _ [.ref a626, .int (x630), .ref a633, .ref a637, .int (x641)] rfl ⟨I489.K ho, r625, I489.Kd k627 rfl, I489.vi k627 (by omega) (by decide), r629, I489.Kd k627 rfl, I489.B k627, I489.vi k627 (by omega) (by decide), I631.K ho, r632, I631.K ho, r636, I631.Kd k638 rfl, I631.vi k638 (by omega) (by decide), r640, trivial⟩ ?_
            refine r_icmp k_M_isGot rfl rfl (fun c642 => ?_) (fun c642 => ?_)
            · obtain ⟨a645, r644, k646, e647⟩ := I631.get ho hE (34)
              have k646 : κ a645 = (60, 2) := k646
              obtain ⟨x649, r648⟩ := I631.get k646 e647 ((nI e).toNatClampNeg)
              have I650 := I631.set (k := (nI e).toNatClampNeg) (v := .int (x649)) k634 ⟨_, rfl⟩
              obtain ⟨a652, r651, k653, e654⟩ := I650.get ho hE (36)
              have k653 : κ a652 = (62, 2) := k653
              have I655 := I650.set (k := (nI e).toNatClampNeg) (v := .int (nI 8)) k653 ⟨_, rfl⟩
              obtain ⟨a657, r656, k658, e659⟩ := I655.get ho hE (40)
              have k658 : κ a657 = (66, 2) := k658
              have r660 := I655.get ho hE (1)
              have I661 := I655.set (k := (nI e).toNatClampNeg) (v := .int (nI (P 1))) k658 ⟨_, rfl⟩
              refine ft_run_ok k_M_isGot 16 _ _ _ _ [.ref a645, .int (x649), .ref a652, .ref a657, .int (nI (P 1))] rfl ⟨I631.K ho, r644, I631.Kd k646 rfl, I631.vi k646 (by omega) (by decide), r648, I631.Kd k634 rfl, I631.B k634, I631.vi k634 (by omega) (by decide), I650.K ho, r651, I650.Kd k653 rfl, I650.B k653, I650.vi k653 (by omega) (by decide), I655.K ho, r656, I655.K ho, r660, I655.Kd k658 rfl, I655.B k658, I655.vi k658 (by omega) (by decide), trivial⟩ ?_
              exact r_ret (v := none) k_M_isGot rfl trivial (Nat.le_of_ble_eq_true rfl) (Nat.le_of_ble_eq_true rfl) ⟨rfl, I661⟩
            · have I663 := I631.set (k := (nI e).toNatClampNeg) (v := .int (nI 60)) k634 ⟨_, rfl⟩
              obtain ⟨a665, r664, k666, e667⟩ := I663.get ho hE (36)
              have k666 : κ a665 = (62, 2) := k666
              have I668 := I663.set (k := (nI e).toNatClampNeg) (v := .int (nI 8)) k666 ⟨_, rfl⟩
              obtain ⟨a670, r669, k671, e672⟩ := I668.get ho hE (40)
              have k671 : κ a670 = (66, 2) := k671
              have r673 := I668.get ho hE (1)
              have I674 := I668.set (k := (nI e).toNatClampNeg) (v := .int (nI (P 1))) k671 ⟨_, rfl⟩
              refine ft_run_ok k_M_isGot 14 _ _ _ _ [.ref a665, .ref a670, .int (nI (P 1))] rfl ⟨I631.Kd k634 rfl, I631.B k634, I631.vi k634 (by omega) (by decide), I663.K ho, r664, I663.Kd k666 rfl, I663.B k666, I663.vi k666 (by omega) (by decide), I668.K ho, r669, I668.K ho, r673, I668.Kd k671 rfl, I668.B k671, I668.vi k671 (by omega) (by decide), trivial⟩ ?_
              exact r_ret (v := none) k_M_isGot rfl trivial (Nat.le_of_ble_eq_true rfl) (Nat.le_of_ble_eq_true rfl) ⟨rfl, I674⟩
      · obtain ⟨a677, r676, k678, e679⟩ := I467.get ho hE (17)
        have k678 : κ a677 = (43, 512) := k678
        have I680 := I467.set (k := (nI n1).toNatClampNeg) (v := .int (nI 2)) k678 ⟨_, rfl⟩
        refine ft_run_ok k_M_isGot 6 _ _ _ _ [.ref a677] rfl ⟨I467.K ho, r676, I467.Kd k678 rfl, I467.B k678, I467.vi k678 (by omega) (by decide), trivial⟩ ?_
        exact r_ret (v := none) k_M_isGot rfl trivial (Nat.le_of_ble_eq_true rfl) (Nat.le_of_ble_eq_true rfl) ⟨rfl, I680⟩
set_option maxRecDepth 100000 in
theorem t_M_missing {o : Nat} {e : Nat} {x_e : Int32} (I : Iv D κ n E P h) (ho : κ o = (kd_M, 0)) (hE : ¬ E o) (q_e : x_e = nI e) (h_e : e < 2) : sm D y_M_missing 0 (lv_args 0 [.ref o, .int x_e]) [] h 0 0 (fun v h' => (v = none) ∧ Iv D κ n E P h') := by
  subst q_e
  have L4 : ∀ (t4 : Nat) (j : Nat), j ≤ 255 → j < t4 → ∀ h : ft_H, Iv D κ n E P h → sm D y_M_missing 4 [(0, .ref o), (1, .int (nI e)), (2, .int (nI j))] [] h 0 0 (fun v h' => (v = none) ∧ Iv D κ n E P h') := by
    intro t4
    induction t4 with
    | zero => intro j f4_0 ht4; exact absurd ht4 (Nat.not_lt_zero _)
    | succ t4 ih4 =>
      intro j f4_0 ht4 h I
      have L52 : ∀ (t52 : Nat) (y3 : Int64) (y5 : Int32) (i : Nat), i ≤ 255 ∧ 0 < j → i < t52 → ∀ h : ft_H, Iv D κ n E P h → sm D y_M_missing 52 [(0, .ref o), (1, .int (nI e)), (2, .int (nI j)), (3, .long (y3)), (5, .int (y5)), (6, .int (nI i))] [] h 0 0 (fun v h' => (v = none) ∧ Iv D κ n E P h') := by
        intro t52
        induction t52 with
        | zero => intro y3 y5 i f52_0 ht52; exact absurd ht52 (Nat.not_lt_zero _)
        | succ t52 ih52 =>
          intro y3 y5 i f52_0 ht52 h I
          refine ft_run_ok k_M_missing 1 _ _ _ _ [] rfl trivial ?_
          refine r_if k_M_missing rfl rfl (fun c1 => ?_) (fun c1 => ?_)
          · have g2 := ft_le0 (a := i) (by omega) c1
            refine ft_run_ok k_M_missing 2 _ _ _ _ [] rfl trivial ?_
            refine r_icmp k_M_missing rfl rfl (fun c3 => ?_) (fun c3 => ?_)
            · refine ft_run_ok k_M_missing 2 _ _ _ _ [] rfl trivial ?_
              rw [show ((nI j) + Int32.ofInt (Int.negSucc 0)) = nI ((j) - 1) from ft_dec (by omega)]
              exact sm_sub [1, 2, 0] rfl (ih4 ((j) - 1) (by omega) (by omega) _ I)
            · obtain ⟨a7, r6, k8, e9⟩ := I.get ho hE (17)
              have k8 : κ a7 = (43, 512) := k8
              refine ft_run_ok k_M_missing 4 _ _ _ _ [.ref a7] rfl ⟨I.K ho, r6, trivial⟩ ?_
              refine r_callS (as := [.int (nI e), .long (y3)]) (r := [.ref a7]) k_M_missing rfl z_M_at rfl (Nat.le_of_ble_eq_true rfl) (Nat.le_of_ble_eq_true rfl) (Nat.le_of_ble_eq_true rfl) (Nat.le_of_ble_eq_true rfl) (t_M_at (e := e) rfl (by omega)) ?_
              rintro v h' ⟨⟨n10, b11, rfl⟩, rfl⟩
              have I12 := I.set (k := (nI n10).toNatClampNeg) (v := .int (nI 3)) k8 ⟨_, rfl⟩
              obtain ⟨a14, r13, k15, e16⟩ := I12.get ho hE (38)
              have k15 : κ a14 = (64, 2) := k15
              obtain ⟨x18, r17⟩ := I12.get k15 e16 ((nI e).toNatClampNeg)
              refine ft_run_ok k_M_missing 6 _ _ _ _ [.ref a14, .int (x18)] rfl ⟨I.Kd k8 rfl, I.B k8, I.vi k8 (by omega) (by decide), I12.K ho, r13, I12.Kd k15 rfl, I12.vi k15 (by omega) (by decide), r17, trivial⟩ ?_
              refine r_if k_M_missing rfl rfl (fun c19 => ?_) (fun c19 => ?_)
              · obtain ⟨a22, r21, k23, e24⟩ := I12.get ho hE (34)
                have k23 : κ a22 = (60, 2) := k23
                obtain ⟨x26, r25⟩ := I12.get k23 e24 ((nI e).toNatClampNeg)
                obtain ⟨a28, r27, k29, e30⟩ := I12.get ho hE (35)
                have k29 : κ a28 = (61, 2) := k29
                refine ft_run_ok k_M_missing 12 _ _ _ _ [.ref a22, .int (x26), .ref a28] rfl ⟨I12.K ho, r21, I12.Kd k23 rfl, I12.vi k23 (by omega) (by decide), r25, (by decide), I12.K ho, r27, trivial⟩ ?_
                refine r_icmp k_M_missing rfl rfl (fun c31 => ?_) (fun c31 => ?_)
                · have I33 := I12.set (k := (nI e).toNatClampNeg) (v := .int ((x26) / (nI 2))) k29 ⟨_, rfl⟩
                  obtain ⟨a35, r34, k36, e37⟩ := I33.get ho hE (34)
                  have k36 : κ a35 = (60, 2) := k36
                  refine ft_run_ok k_M_missing 7 _ _ _ _ [.ref a35] rfl ⟨I12.Kd k29 rfl, I12.B k29, I12.vi k29 (by omega) (by decide), I33.K ho, r34, trivial⟩ ?_
                  refine r_icmp k_M_missing rfl rfl (fun c38 => ?_) (fun c38 => ?_)
                  · have I40 := I33.set (k := (nI e).toNatClampNeg) (v := .int ((x26) / (nI 2))) k36 ⟨_, rfl⟩
                    obtain ⟨a42, r41, k43, e44⟩ := I40.get ho hE (37)
                    have k43 : κ a42 = (63, 2) := k43
                    have I45 := I40.set (k := (nI e).toNatClampNeg) (v := .int (nI 0)) k43 ⟨_, rfl⟩
                    obtain ⟨a47, r46, k48, e49⟩ := I45.get ho hE (38)
                    have k48 : κ a47 = (64, 2) := k48
                    have I50 := I45.set (k := (nI e).toNatClampNeg) (v := narrow .boolean (.int (nI 1))) k48 ⟨_, rfl⟩
                    obtain ⟨a52, r51, k53, e54⟩ := I50.get ho hE (39)
                    have k53 : κ a52 = (65, 2) := k53
                    obtain ⟨a56, r55, k57, e58⟩ := I50.get ho hE (10)
                    have k57 : κ a56 = (36, 2) := k57
                    obtain ⟨x60, r59⟩ := I50.get k57 e58 ((nI e).toNatClampNeg)
                    refine ft_run_ok k_M_missing 21 _ _ _ _ [.ref a42, .ref a47, .ref a52, .ref a56, .long (x60)] rfl ⟨I33.Kd k36 rfl, I33.B k36, I33.vi k36 (by omega) (by decide), I40.K ho, r41, I40.Kd k43 rfl, I40.B k43, I40.vi k43 (by omega) (by decide), I45.K ho, r46, I45.Kd k48 rfl, I45.B k48, I45.vi k48 (by omega) (by decide), I50.K ho, r51, I50.K ho, r55, I50.Kd k57 rfl, I50.vi k57 (by omega) (by decide), r59, trivial⟩ ?_
                    refine r_callS (as := [.long ((x60) - (lN 1))]) (r := [.int (nI e), .ref a52]) k_M_missing rfl z_M_around rfl (Nat.le_of_ble_eq_true rfl) (Nat.le_of_ble_eq_true rfl) (Nat.le_of_ble_eq_true rfl) (Nat.le_of_ble_eq_true rfl) (t_M_around) ?_
                    rintro v h' ⟨⟨x61, rfl⟩, rfl⟩
                    have I62 := I50.set (k := (nI e).toNatClampNeg) (v := .long (x61)) k53 ⟨_, rfl⟩
                    refine ft_run_ok k_M_missing 3 _ _ _ _ [] rfl ⟨I50.Kd k53 rfl, I50.B k53, I50.vi k53 (by omega) (by decide), trivial⟩ ?_
                    rw [show ((nI j) + Int32.ofInt (Int.negSucc 0)) = nI ((j) - 1) from ft_dec (by omega)]
                    exact sm_sub [2, 3, 0] rfl (ih4 ((j) - 1) (by omega) (by omega) _ I62)
                  · have I64 := I33.set (k := (nI e).toNatClampNeg) (v := .int (nI 1)) k36 ⟨_, rfl⟩
                    obtain ⟨a66, r65, k67, e68⟩ := I64.get ho hE (37)
                    have k67 : κ a66 = (63, 2) := k67
                    have I69 := I64.set (k := (nI e).toNatClampNeg) (v := .int (nI 0)) k67 ⟨_, rfl⟩
                    obtain ⟨a71, r70, k72, e73⟩ := I69.get ho hE (38)
                    have k72 : κ a71 = (64, 2) := k72
                    have I74 := I69.set (k := (nI e).toNatClampNeg) (v := narrow .boolean (.int (nI 1))) k72 ⟨_, rfl⟩
                    obtain ⟨a76, r75, k77, e78⟩ := I74.get ho hE (39)
                    have k77 : κ a76 = (65, 2) := k77
                    obtain ⟨a80, r79, k81, e82⟩ := I74.get ho hE (10)
                    have k81 : κ a80 = (36, 2) := k81
                    obtain ⟨x84, r83⟩ := I74.get k81 e82 ((nI e).toNatClampNeg)
                    refine ft_run_ok k_M_missing 22 _ _ _ _ [.ref a66, .ref a71, .ref a76, .ref a80, .long (x84)] rfl ⟨I33.Kd k36 rfl, I33.B k36, I33.vi k36 (by omega) (by decide), I64.K ho, r65, I64.Kd k67 rfl, I64.B k67, I64.vi k67 (by omega) (by decide), I69.K ho, r70, I69.Kd k72 rfl, I69.B k72, I69.vi k72 (by omega) (by decide), I74.K ho, r75, I74.K ho, r79, I74.Kd k81 rfl, I74.vi k81 (by omega) (by decide), r83, trivial⟩ ?_
                    refine r_callS (as := [.long ((x84) - (lN 1))]) (r := [.int (nI e), .ref a76]) k_M_missing rfl z_M_around rfl (Nat.le_of_ble_eq_true rfl) (Nat.le_of_ble_eq_true rfl) (Nat.le_of_ble_eq_true rfl) (Nat.le_of_ble_eq_true rfl) (t_M_around) ?_
                    rintro v h' ⟨⟨x85, rfl⟩, rfl⟩
                    have I86 := I74.set (k := (nI e).toNatClampNeg) (v := .long (x85)) k77 ⟨_, rfl⟩
                    refine ft_run_ok k_M_missing 3 _ _ _ _ [] rfl ⟨I74.Kd k77 rfl, I74.B k77, I74.vi k77 (by omega) (by decide), trivial⟩ ?_
                    rw [show ((nI j) + Int32.ofInt (Int.negSucc 0)) = nI ((j) - 1) from ft_dec (by omega)]
                    exact sm_sub [2, 3, 0] rfl (ih4 ((j) - 1) (by omega) (by omega) _ I86)
                · have I88 := I12.set (k := (nI e).toNatClampNeg) (v := .int (nI 2)) k29 ⟨_, rfl⟩
                  obtain ⟨a90, r89, k91, e92⟩ := I88.get ho hE (34)
                  have k91 : κ a90 = (60, 2) := k91
                  refine ft_run_ok k_M_missing 8 _ _ _ _ [.ref a90] rfl ⟨I12.Kd k29 rfl, I12.B k29, I12.vi k29 (by omega) (by decide), I88.K ho, r89, trivial⟩ ?_
                  refine r_icmp k_M_missing rfl rfl (fun c93 => ?_) (fun c93 => ?_)
                  · have I95 := I88.set (k := (nI e).toNatClampNeg) (v := .int ((x26) / (nI 2))) k91 ⟨_, rfl⟩
                    obtain ⟨a97, r96, k98, e99⟩ := I95.get ho hE (37)
                    have k98 : κ a97 = (63, 2) := k98
                    have I100 := I95.set (k := (nI e).toNatClampNeg) (v := .int (nI 0)) k98 ⟨_, rfl⟩
                    obtain ⟨a102, r101, k103, e104⟩ := I100.get ho hE (38)
                    have k103 : κ a102 = (64, 2) := k103
                    have I105 := I100.set (k := (nI e).toNatClampNeg) (v := narrow .boolean (.int (nI 1))) k103 ⟨_, rfl⟩
                    obtain ⟨a107, r106, k108, e109⟩ := I105.get ho hE (39)
                    have k108 : κ a107 = (65, 2) := k108
                    obtain ⟨a111, r110, k112, e113⟩ := I105.get ho hE (10)
                    have k112 : κ a111 = (36, 2) := k112
                    obtain ⟨x115, r114⟩ := I105.get k112 e113 ((nI e).toNatClampNeg)
                    refine ft_run_ok k_M_missing 21 _ _ _ _ [.ref a97, .ref a102, .ref a107, .ref a111, .long (x115)] rfl ⟨I88.Kd k91 rfl, I88.B k91, I88.vi k91 (by omega) (by decide), I95.K ho, r96, I95.Kd k98 rfl, I95.B k98, I95.vi k98 (by omega) (by decide), I100.K ho, r101, I100.Kd k103 rfl, I100.B k103, I100.vi k103 (by omega) (by decide), I105.K ho, r106, I105.K ho, r110, I105.Kd k112 rfl, I105.vi k112 (by omega) (by decide), r114, trivial⟩ ?_
                    refine r_callS (as := [.long ((x115) - (lN 1))]) (r := [.int (nI e), .ref a107]) k_M_missing rfl z_M_around rfl (Nat.le_of_ble_eq_true rfl) (Nat.le_of_ble_eq_true rfl) (Nat.le_of_ble_eq_true rfl) (Nat.le_of_ble_eq_true rfl) (t_M_around) ?_
                    rintro v h' ⟨⟨x116, rfl⟩, rfl⟩
                    have I117 := I105.set (k := (nI e).toNatClampNeg) (v := .long (x116)) k108 ⟨_, rfl⟩
                    refine ft_run_ok k_M_missing 3 _ _ _ _ [] rfl ⟨I105.Kd k108 rfl, I105.B k108, I105.vi k108 (by omega) (by decide), trivial⟩ ?_
                    rw [show ((nI j) + Int32.ofInt (Int.negSucc 0)) = nI ((j) - 1) from ft_dec (by omega)]
                    exact sm_sub [2, 3, 0] rfl (ih4 ((j) - 1) (by omega) (by omega) _ I117)
                  · have I119 := I88.set (k := (nI e).toNatClampNeg) (v := .int (nI 1)) k91 ⟨_, rfl⟩
                    obtain ⟨a121, r120, k122, e123⟩ := I119.get ho hE (37)
                    have k122 : κ a121 = (63, 2) := k122
                    have I124 := I119.set (k := (nI e).toNatClampNeg) (v := .int (nI 0)) k122 ⟨_, rfl⟩
                    obtain ⟨a126, r125, k127, e128⟩ := I124.get ho hE (38)
                    have k127 : κ a126 = (64, 2) := k127
                    have I129 := I124.set (k := (nI e).toNatClampNeg) (v := narrow .boolean (.int (nI 1))) k127 ⟨_, rfl⟩
                    obtain ⟨a131, r130, k132, e133⟩ := I129.get ho hE (39)
                    have k132 : κ a131 = (65, 2) := k132
                    obtain ⟨a135, r134, k136, e137⟩ := I129.get ho hE (10)
                    have k136 : κ a135 = (36, 2) := k136
                    obtain ⟨x139, r138⟩ := I129.get k136 e137 ((nI e).toNatClampNeg)
                    refine ft_run_ok k_M_missing 22 _ _ _ _ [.ref a121, .ref a126, .ref a131, .ref a135, .long (x139)] rfl ⟨I88.Kd k91 rfl, I88.B k91, I88.vi k91 (by omega) (by decide), I119.K ho, r120, I119.Kd k122 rfl, I119.B k122, I119.vi k122 (by omega) (by decide), I124.K ho, r125, I124.Kd k127 rfl, I124.B k127, I124.vi k127 (by omega) (by decide), I129.K ho, r130, I129.K ho, r134, I129.Kd k136 rfl, I129.vi k136 (by omega) (by decide), r138, trivial⟩ ?_
                    refine r_callS (as := [.long ((x139) - (lN 1))]) (r := [.int (nI e), .ref a131]) k_M_missing rfl z_M_around rfl (Nat.le_of_ble_eq_true rfl) (Nat.le_of_ble_eq_true rfl) (Nat.le_of_ble_eq_true rfl) (Nat.le_of_ble_eq_true rfl) (t_M_around) ?_
                    rintro v h' ⟨⟨x140, rfl⟩, rfl⟩
                    have I141 := I129.set (k := (nI e).toNatClampNeg) (v := .long (x140)) k132 ⟨_, rfl⟩
                    refine ft_run_ok k_M_missing 3 _ _ _ _ [] rfl ⟨I129.Kd k132 rfl, I129.B k132, I129.vi k132 (by omega) (by decide), trivial⟩ ?_
                    rw [show ((nI j) + Int32.ofInt (Int.negSucc 0)) = nI ((j) - 1) from ft_dec (by omega)]
                    exact sm_sub [2, 3, 0] rfl (ih4 ((j) - 1) (by omega) (by omega) _ I141)
              · obtain ⟨a144, r143, k145, e146⟩ := I12.get ho hE (39)
                have k145 : κ a144 = (65, 2) := k145
                obtain ⟨x148, r147⟩ := I12.get k145 e146 ((nI e).toNatClampNeg)
                refine ft_run_ok k_M_missing 5 _ _ _ _ [.ref a144, .long (x148)] rfl ⟨I12.K ho, r143, I12.Kd k145 rfl, I12.vi k145 (by omega) (by decide), r147, trivial⟩ ?_
                refine r_callS (as := [.long (y3), .long (x148)]) (r := []) k_M_missing rfl z_M_after rfl (Nat.le_of_ble_eq_true rfl) (Nat.le_of_ble_eq_true rfl) (Nat.le_of_ble_eq_true rfl) (Nat.le_of_ble_eq_true rfl) (t_M_after) ?_
                rintro v h' ⟨⟨n149, b150, rfl⟩, rfl⟩
                refine r_if k_M_missing rfl rfl (fun c151 => ?_) (fun c151 => ?_)
                · have g152 := ft_eq0 (a := n149) (by omega) c151
                  refine ft_run_ok k_M_missing 2 _ _ _ _ [] rfl trivial ?_
                  rw [show ((nI j) + Int32.ofInt (Int.negSucc 0)) = nI ((j) - 1) from ft_dec (by omega)]
                  exact sm_sub [1, 2, 0] rfl (ih4 ((j) - 1) (by omega) (by omega) _ I12)
                · have g153 := ft_ne0 (a := n149) c151
                  obtain ⟨a155, r154, k156, e157⟩ := I12.get ho hE (34)
                  have k156 : κ a155 = (60, 2) := k156
                  obtain ⟨x159, r158⟩ := I12.get k156 e157 ((nI e).toNatClampNeg)
                  obtain ⟨a161, r160, k162, e163⟩ := I12.get ho hE (35)
                  have k162 : κ a161 = (61, 2) := k162
                  refine ft_run_ok k_M_missing 12 _ _ _ _ [.ref a155, .int (x159), .ref a161] rfl ⟨I12.K ho, r154, I12.Kd k156 rfl, I12.vi k156 (by omega) (by decide), r158, (by decide), I12.K ho, r160, trivial⟩ ?_
                  refine r_icmp k_M_missing rfl rfl (fun c164 => ?_) (fun c164 => ?_)
                  · have I166 := I12.set (k := (nI e).toNatClampNeg) (v := .int ((x159) / (nI 2))) k162 ⟨_, rfl⟩
                    obtain ⟨a168, r167, k169, e170⟩ := I166.get ho hE (34)
                    have k169 : κ a168 = (60, 2) := k169
                    refine ft_run_ok k_M_missing 7 _ _ _ _ [.ref a168] rfl ⟨I12.Kd k162 rfl, I12.B k162, I12.vi k162 (by omega) (by decide), I166.K ho, r167, trivial⟩ ?_
                    refine r_icmp k_M_missing rfl rfl (fun c171 => ?_) (fun c171 => ?_)
                    · have I173 := I166.set (k := (nI e).toNatClampNeg) (v := .int ((x159) / (nI 2))) k169 ⟨_, rfl⟩
                      obtain ⟨a175, r174, k176, e177⟩ := I173.get ho hE (37)
                      have k176 : κ a175 = (63, 2) := k176
                      have I178 := I173.set (k := (nI e).toNatClampNeg) (v := .int (nI 0)) k176 ⟨_, rfl⟩
                      obtain ⟨a180, r179, k181, e182⟩ := I178.get ho hE (38)
                      have k181 : κ a180 = (64, 2) := k181
                      have I183 := I178.set (k := (nI e).toNatClampNeg) (v := narrow .boolean (.int (nI 1))) k181 ⟨_, rfl⟩
                      obtain ⟨a185, r184, k186, e187⟩ := I183.get ho hE (39)
                      have k186 : κ a185 = (65, 2) := k186
                      obtain ⟨a189, r188, k190, e191⟩ := I183.get ho hE (10)
                      have k190 : κ a189 = (36, 2) := k190
                      obtain ⟨x193, r192⟩ := I183.get k190 e191 ((nI e).toNatClampNeg)
                      refine ft_run_ok k_M_missing 21 _ _ _ _ [.ref a175, .ref a180, .ref a185, .ref a189, .long (x193)] rfl ⟨I166.Kd k169 rfl, I166.B k169, I166.vi k169 (by omega) (by decide), I173.K ho, r174, I173.Kd k176 rfl, I173.B k176, I173.vi k176 (by omega) (by decide), I178.K ho, r179, I178.Kd k181 rfl, I178.B k181, I178.vi k181 (by omega) (by decide), I183.K ho, r184, I183.K ho, r188, I183.Kd k190 rfl, I183.vi k190 (by omega) (by decide), r192, trivial⟩ ?_
                      refine r_callS (as := [.long ((x193) - (lN 1))]) (r := [.int (nI e), .ref a185]) k_M_missing rfl z_M_around rfl (Nat.le_of_ble_eq_true rfl) (Nat.le_of_ble_eq_true rfl) (Nat.le_of_ble_eq_true rfl) (Nat.le_of_ble_eq_true rfl) (t_M_around) ?_
                      rintro v h' ⟨⟨x194, rfl⟩, rfl⟩
                      have I195 := I183.set (k := (nI e).toNatClampNeg) (v := .long (x194)) k186 ⟨_, rfl⟩
                      refine ft_run_ok k_M_missing 3 _ _ _ _ [] rfl ⟨I183.Kd k186 rfl, I183.B k186, I183.vi k186 (by omega) (by decide), trivial⟩ ?_
                      rw [show ((nI j) + Int32.ofInt (Int.negSucc 0)) = nI ((j) - 1) from ft_dec (by omega)]
                      exact sm_sub [2, 3, 0] rfl (ih4 ((j) - 1) (by omega) (by omega) _ I195)
                    · have I197 := I166.set (k := (nI e).toNatClampNeg) (v := .int (nI 1)) k169 ⟨_, rfl⟩
                      obtain ⟨a199, r198, k200, e201⟩ := I197.get ho hE (37)
                      have k200 : κ a199 = (63, 2) := k200
                      have I202 := I197.set (k := (nI e).toNatClampNeg) (v := .int (nI 0)) k200 ⟨_, rfl⟩
                      obtain ⟨a204, r203, k205, e206⟩ := I202.get ho hE (38)
                      have k205 : κ a204 = (64, 2) := k205
                      have I207 := I202.set (k := (nI e).toNatClampNeg) (v := narrow .boolean (.int (nI 1))) k205 ⟨_, rfl⟩
                      obtain ⟨a209, r208, k210, e211⟩ := I207.get ho hE (39)
                      have k210 : κ a209 = (65, 2) := k210
                      obtain ⟨a213, r212, k214, e215⟩ := I207.get ho hE (10)
                      have k214 : κ a213 = (36, 2) := k214
                      obtain ⟨x217, r216⟩ := I207.get k214 e215 ((nI e).toNatClampNeg)
                      refine ft_run_ok k_M_missing 22 _ _ _ _ [.ref a199, .ref a204, .ref a209, .ref a213, .long (x217)] rfl ⟨I166.Kd k169 rfl, I166.B k169, I166.vi k169 (by omega) (by decide), I197.K ho, r198, I197.Kd k200 rfl, I197.B k200, I197.vi k200 (by omega) (by decide), I202.K ho, r203, I202.Kd k205 rfl, I202.B k205, I202.vi k205 (by omega) (by decide), I207.K ho, r208, I207.K ho, r212, I207.Kd k214 rfl, I207.vi k214 (by omega) (by decide), r216, trivial⟩ ?_
                      refine r_callS (as := [.long ((x217) - (lN 1))]) (r := [.int (nI e), .ref a209]) k_M_missing rfl z_M_around rfl (Nat.le_of_ble_eq_true rfl) (Nat.le_of_ble_eq_true rfl) (Nat.le_of_ble_eq_true rfl) (Nat.le_of_ble_eq_true rfl) (t_M_around) ?_
                      rintro v h' ⟨⟨x218, rfl⟩, rfl⟩
                      have I219 := I207.set (k := (nI e).toNatClampNeg) (v := .long (x218)) k210 ⟨_, rfl⟩
                      refine ft_run_ok k_M_missing 3 _ _ _ _ [] rfl ⟨I207.Kd k210 rfl, I207.B k210, I207.vi k210 (by omega) (by decide), trivial⟩ ?_
                      rw [show ((nI j) + Int32.ofInt (Int.negSucc 0)) = nI ((j) - 1) from ft_dec (by omega)]
                      exact sm_sub [2, 3, 0] rfl (ih4 ((j) - 1) (by omega) (by omega) _ I219)
                  · have I221 := I12.set (k := (nI e).toNatClampNeg) (v := .int (nI 2)) k162 ⟨_, rfl⟩
                    obtain ⟨a223, r222, k224, e225⟩ := I221.get ho hE (34)
                    have k224 : κ a223 = (60, 2) := k224
                    refine ft_run_ok k_M_missing 8 _ _ _ _ [.ref a223] rfl ⟨I12.Kd k162 rfl, I12.B k162, I12.vi k162 (by omega) (by decide), I221.K ho, r222, trivial⟩ ?_
                    refine r_icmp k_M_missing rfl rfl (fun c226 => ?_) (fun c226 => ?_)
                    · have I228 := I221.set (k := (nI e).toNatClampNeg) (v := .int ((x159) / (nI 2))) k224 ⟨_, rfl⟩
                      obtain ⟨a230, r229, k231, e232⟩ := I228.get ho hE (37)
                      have k231 : κ a230 = (63, 2) := k231
                      have I233 := I228.set (k := (nI e).toNatClampNeg) (v := .int (nI 0)) k231 ⟨_, rfl⟩
                      obtain ⟨a235, r234, k236, e237⟩ := I233.get ho hE (38)
                      have k236 : κ a235 = (64, 2) := k236
                      have I238 := I233.set (k := (nI e).toNatClampNeg) (v := narrow .boolean (.int (nI 1))) k236 ⟨_, rfl⟩
                      obtain ⟨a240, r239, k241, e242⟩ := I238.get ho hE (39)
                      have k241 : κ a240 = (65, 2) := k241
                      obtain ⟨a244, r243, k245, e246⟩ := I238.get ho hE (10)
                      have k245 : κ a244 = (36, 2) := k245
                      obtain ⟨x248, r247⟩ := I238.get k245 e246 ((nI e).toNatClampNeg)
                      refine ft_run_ok k_M_missing 21 _ _ _ _ [.ref a230, .ref a235, .ref a240, .ref a244, .long (x248)] rfl ⟨I221.Kd k224 rfl, I221.B k224, I221.vi k224 (by omega) (by decide), I228.K ho, r229, I228.Kd k231 rfl, I228.B k231, I228.vi k231 (by omega) (by decide), I233.K ho, r234, I233.Kd k236 rfl, I233.B k236, I233.vi k236 (by omega) (by decide), I238.K ho, r239, I238.K ho, r243, I238.Kd k245 rfl, I238.vi k245 (by omega) (by decide), r247, trivial⟩ ?_
                      refine r_callS (as := [.long ((x248) - (lN 1))]) (r := [.int (nI e), .ref a240]) k_M_missing rfl z_M_around rfl (Nat.le_of_ble_eq_true rfl) (Nat.le_of_ble_eq_true rfl) (Nat.le_of_ble_eq_true rfl) (Nat.le_of_ble_eq_true rfl) (t_M_around) ?_
                      rintro v h' ⟨⟨x249, rfl⟩, rfl⟩
                      have I250 := I238.set (k := (nI e).toNatClampNeg) (v := .long (x249)) k241 ⟨_, rfl⟩
                      refine ft_run_ok k_M_missing 3 _ _ _ _ [] rfl ⟨I238.Kd k241 rfl, I238.B k241, I238.vi k241 (by omega) (by decide), trivial⟩ ?_
                      rw [show ((nI j) + Int32.ofInt (Int.negSucc 0)) = nI ((j) - 1) from ft_dec (by omega)]
                      exact sm_sub [2, 3, 0] rfl (ih4 ((j) - 1) (by omega) (by omega) _ I250)
                    · have I252 := I221.set (k := (nI e).toNatClampNeg) (v := .int (nI 1)) k224 ⟨_, rfl⟩
                      obtain ⟨a254, r253, k255, e256⟩ := I252.get ho hE (37)
                      have k255 : κ a254 = (63, 2) := k255
                      have I257 := I252.set (k := (nI e).toNatClampNeg) (v := .int (nI 0)) k255 ⟨_, rfl⟩
                      obtain ⟨a259, r258, k260, e261⟩ := I257.get ho hE (38)
                      have k260 : κ a259 = (64, 2) := k260
                      have I262 := I257.set (k := (nI e).toNatClampNeg) (v := narrow .boolean (.int (nI 1))) k260 ⟨_, rfl⟩
                      obtain ⟨a264, r263, k265, e266⟩ := I262.get ho hE (39)
                      have k265 : κ a264 = (65, 2) := k265
                      obtain ⟨a268, r267, k269, e270⟩ := I262.get ho hE (10)
                      have k269 : κ a268 = (36, 2) := k269
                      obtain ⟨x272, r271⟩ := I262.get k269 e270 ((nI e).toNatClampNeg)
                      refine ft_run_ok k_M_missing 22 _ _ _ _ [.ref a254, .ref a259, .ref a264, .ref a268, .long (x272)] rfl ⟨I221.Kd k224 rfl, I221.B k224, I221.vi k224 (by omega) (by decide), I252.K ho, r253, I252.Kd k255 rfl, I252.B k255, I252.vi k255 (by omega) (by decide), I257.K ho, r258, I257.Kd k260 rfl, I257.B k260, I257.vi k260 (by omega) (by decide), I262.K ho, r263, I262.K ho, r267, I262.Kd k269 rfl, I262.vi k269 (by omega) (by decide), r271, trivial⟩ ?_
                      refine r_callS (as := [.long ((x272) - (lN 1))]) (r := [.int (nI e), .ref a264]) k_M_missing rfl z_M_around rfl (Nat.le_of_ble_eq_true rfl) (Nat.le_of_ble_eq_true rfl) (Nat.le_of_ble_eq_true rfl) (Nat.le_of_ble_eq_true rfl) (t_M_around) ?_
                      rintro v h' ⟨⟨x273, rfl⟩, rfl⟩
                      have I274 := I262.set (k := (nI e).toNatClampNeg) (v := .long (x273)) k265 ⟨_, rfl⟩
                      refine ft_run_ok k_M_missing 3 _ _ _ _ [] rfl ⟨I262.Kd k265 rfl, I262.B k265, I262.vi k265 (by omega) (by decide), trivial⟩ ?_
                      rw [show ((nI j) + Int32.ofInt (Int.negSucc 0)) = nI ((j) - 1) from ft_dec (by omega)]
                      exact sm_sub [2, 3, 0] rfl (ih4 ((j) - 1) (by omega) (by omega) _ I274)
          · have g275 := ft_gt0 (a := i) (Int32.not_le.mp c1)
            obtain ⟨a277, r276, k278, e279⟩ := I.get ho hE (10)
            have k278 : κ a277 = (36, 2) := k278
            obtain ⟨x281, r280⟩ := I.get k278 e279 ((nI e).toNatClampNeg)
            refine ft_run_ok k_M_missing 7 _ _ _ _ [.ref a277, .long (x281)] rfl ⟨I.K ho, r276, I.Kd k278 rfl, I.vi k278 (by omega) (by decide), r280, trivial⟩ ?_
            refine r_callS (as := [.long ((x281) - ((nI i).toInt64))]) (r := []) k_M_missing rfl z_M_around rfl (Nat.le_of_ble_eq_true rfl) (Nat.le_of_ble_eq_true rfl) (Nat.le_of_ble_eq_true rfl) (Nat.le_of_ble_eq_true rfl) (t_M_around) ?_
            rintro v h' ⟨⟨x282, rfl⟩, rfl⟩
            refine ft_run_ok k_M_missing 5 _ _ _ _ [] rfl trivial ?_
            refine r_callV (as := [.int (nI e), .long (x282)]) (a := o) (ci := 11) (r := [.int (y5)]) k_M_missing rfl z_M_isOwn rfl (by decide) rfl (I.K ho) (Nat.le_of_ble_eq_true rfl) (Nat.le_of_ble_eq_true rfl) (Nat.le_of_ble_eq_true rfl) (Nat.le_of_ble_eq_true rfl) (t_M_isOwn I ho hE (e := e) rfl (by omega)) ?_
            rintro v h' ⟨⟨n283, b284, rfl⟩, rfl⟩
            refine r_if k_M_missing rfl rfl (fun c285 => ?_) (fun c285 => ?_)
            · have g286 := ft_eq0 (a := n283) (by omega) c285
              refine ft_run_ok k_M_missing 5 _ _ _ _ [] rfl trivial ?_
              rw [show ((nI i) + Int32.ofInt (Int.negSucc 0)) = nI ((i) - 1) from ft_dec (by omega)]
              exact sm_sub [3, 4, 5, 6, 1, 0] rfl (ih52 (y3) ((y5) + (nI 0)) ((i) - 1) (by omega) (by omega) _ I)
            · have g287 := ft_ne0 (a := n283) c285
              obtain ⟨a289, r288, k290, e291⟩ := I.get ho hE (17)
              have k290 : κ a289 = (43, 512) := k290
              refine ft_run_ok k_M_missing 4 _ _ _ _ [.ref a289] rfl ⟨I.K ho, r288, trivial⟩ ?_
              refine r_callS (as := [.int (nI e), .long (x282)]) (r := [.ref a289, .int (y5)]) k_M_missing rfl z_M_at rfl (Nat.le_of_ble_eq_true rfl) (Nat.le_of_ble_eq_true rfl) (Nat.le_of_ble_eq_true rfl) (Nat.le_of_ble_eq_true rfl) (t_M_at (e := e) rfl (by omega)) ?_
              rintro v h' ⟨⟨n292, b293, rfl⟩, rfl⟩
              obtain ⟨x295, r294⟩ := I.get k290 e291 ((nI n292).toNatClampNeg)
              refine ft_run_ok k_M_missing 2 _ _ _ _ [.int (x295)] rfl ⟨I.Kd k290 rfl, I.vi k290 (by omega) (by decide), r294, trivial⟩ ?_
              refine r_icmp k_M_missing rfl rfl (fun c296 => ?_) (fun c296 => ?_)
              · refine ft_run_ok k_M_missing 5 _ _ _ _ [] rfl trivial ?_
                rw [show ((nI i) + Int32.ofInt (Int.negSucc 0)) = nI ((i) - 1) from ft_dec (by omega)]
                exact sm_sub [3, 4, 5, 6, 1, 0] rfl (ih52 (y3) ((y5) + (nI 0)) ((i) - 1) (by omega) (by omega) _ I)
              · refine ft_run_ok k_M_missing 6 _ _ _ _ [] rfl trivial ?_
                rw [show ((nI i) + Int32.ofInt (Int.negSucc 0)) = nI ((i) - 1) from ft_dec (by omega)]
                exact sm_sub [3, 4, 5, 6, 1, 0] rfl (ih52 (y3) ((y5) + (nI 1)) ((i) - 1) (by omega) (by omega) _ I)
      refine ft_run_ok k_M_missing 1 _ _ _ _ [] rfl trivial ?_
      refine r_if k_M_missing rfl rfl (fun c299 => ?_) (fun c299 => ?_)
      · have g300 := ft_le0 (a := j) (by omega) c299
        exact r_ret (v := none) k_M_missing rfl trivial (Nat.le_of_ble_eq_true rfl) (Nat.le_of_ble_eq_true rfl) ⟨rfl, I⟩
      · have g301 := ft_gt0 (a := j) (Int32.not_le.mp c299)
        obtain ⟨a303, r302, k304, e305⟩ := I.get ho hE (10)
        have k304 : κ a303 = (36, 2) := k304
        obtain ⟨x307, r306⟩ := I.get k304 e305 ((nI e).toNatClampNeg)
        refine ft_run_ok k_M_missing 7 _ _ _ _ [.ref a303, .long (x307)] rfl ⟨I.K ho, r302, I.Kd k304 rfl, I.vi k304 (by omega) (by decide), r306, trivial⟩ ?_
        refine r_callS (as := [.long ((x307) - ((nI j).toInt64))]) (r := []) k_M_missing rfl z_M_around rfl (Nat.le_of_ble_eq_true rfl) (Nat.le_of_ble_eq_true rfl) (Nat.le_of_ble_eq_true rfl) (Nat.le_of_ble_eq_true rfl) (t_M_around) ?_
        rintro v h' ⟨⟨x308, rfl⟩, rfl⟩
        refine ft_run_ok k_M_missing 4 _ _ _ _ [] rfl trivial ?_
        refine r_callV (as := [.int (nI e), .long (x308)]) (a := o) (ci := 11) (r := []) k_M_missing rfl z_M_isOwn rfl (by decide) rfl (I.K ho) (Nat.le_of_ble_eq_true rfl) (Nat.le_of_ble_eq_true rfl) (Nat.le_of_ble_eq_true rfl) (Nat.le_of_ble_eq_true rfl) (t_M_isOwn I ho hE (e := e) rfl (by omega)) ?_
        rintro v h' ⟨⟨n309, b310, rfl⟩, rfl⟩
        refine r_if k_M_missing rfl rfl (fun c311 => ?_) (fun c311 => ?_)
        · have g312 := ft_eq0 (a := n309) (by omega) c311
          refine ft_run_ok k_M_missing 2 _ _ _ _ [] rfl trivial ?_
          rw [show ((nI j) + Int32.ofInt (Int.negSucc 0)) = nI ((j) - 1) from ft_dec (by omega)]
          exact sm_sub [2, 3, 0] rfl (ih4 ((j) - 1) (by omega) (by omega) _ I)
        · have g313 := ft_ne0 (a := n309) c311
          obtain ⟨a315, r314, k316, e317⟩ := I.get ho hE (17)
          have k316 : κ a315 = (43, 512) := k316
          refine ft_run_ok k_M_missing 4 _ _ _ _ [.ref a315] rfl ⟨I.K ho, r314, trivial⟩ ?_
          refine r_callS (as := [.int (nI e), .long (x308)]) (r := [.ref a315]) k_M_missing rfl z_M_at rfl (Nat.le_of_ble_eq_true rfl) (Nat.le_of_ble_eq_true rfl) (Nat.le_of_ble_eq_true rfl) (Nat.le_of_ble_eq_true rfl) (t_M_at (e := e) rfl (by omega)) ?_
          rintro v h' ⟨⟨n318, b319, rfl⟩, rfl⟩
          obtain ⟨x321, r320⟩ := I.get k316 e317 ((nI n318).toNatClampNeg)
          refine ft_run_ok k_M_missing 2 _ _ _ _ [.int (x321)] rfl ⟨I.Kd k316 rfl, I.vi k316 (by omega) (by decide), r320, trivial⟩ ?_
          refine r_icmp k_M_missing rfl rfl (fun c322 => ?_) (fun c322 => ?_)
          · refine ft_run_ok k_M_missing 2 _ _ _ _ [] rfl trivial ?_
            rw [show ((nI j) + Int32.ofInt (Int.negSucc 0)) = nI ((j) - 1) from ft_dec (by omega)]
            exact sm_sub [2, 3, 0] rfl (ih4 ((j) - 1) (by omega) (by omega) _ I)
          · refine ft_run_ok k_M_missing 6 _ _ _ _ [] rfl trivial ?_
            rw [show ((nI j) - (nI 1)) = nI ((j) - (1)) from by simp only [nI_add, pk_mul, pk_sub (show 1 ≤ j by omega)]]
            exact sm_sub [3, 4, 5, 2, 1, 0] rfl (L52 _ (x308) (nI 0) ((j) - (1)) (by omega) (Nat.lt_succ_self _) _ I)
  refine ft_run_ok k_M_missing 2 _ _ _ _ [] rfl trivial ?_
  exact sm_sub [1, 2, 0] rfl (L4 _ (255) (by omega) (Nat.lt_succ_self _) _ I)
set_option maxRecDepth 100000 in
theorem t_M_tooLong {o : Nat} {e : Nat} {x_e : Int32} (I : Iv D κ n E P h) (ho : κ o = (kd_M, 0)) (hE : ¬ E o) (q_e : x_e = nI e) (h_e : e < 2) : sm D y_M_tooLong 0 (lv_args 0 [.ref o, .int x_e]) [] h 0 0 (fun v h' => (v = none) ∧ Iv D κ n E P h') := by
  subst q_e
  have L31 : ∀ (t31 : Nat) (j : Nat), j ≤ 256 → 256 - j < t31 → ∀ h : ft_H, Iv D κ n E P h → sm D y_M_tooLong 31 [(0, .ref o), (1, .int (nI e)), (2, .int (nI j))] [] h 0 0 (fun v h' => (v = none) ∧ Iv D κ n E P h') := by
    intro t31
    induction t31 with
    | zero => intro j f31_0 ht31; exact absurd ht31 (Nat.not_lt_zero _)
    | succ t31 ih31 =>
      intro j f31_0 ht31 h I
      refine ft_run_ok k_M_tooLong 2 _ _ _ _ [] rfl trivial ?_
      refine r_icmp k_M_tooLong rfl rfl (fun c1 => ?_) (fun c1 => ?_)
      · have g2 := ft_le (a := 256) (b := j) (by omega) (by omega) c1
        obtain ⟨a4, r3, k5, e6⟩ := I.get ho hE (34)
        have k5 : κ a4 = (60, 2) := k5
        obtain ⟨x8, r7⟩ := I.get k5 e6 ((nI e).toNatClampNeg)
        obtain ⟨a10, r9, k11, e12⟩ := I.get ho hE (35)
        have k11 : κ a10 = (61, 2) := k11
        refine ft_run_ok k_M_tooLong 12 _ _ _ _ [.ref a4, .int (x8), .ref a10] rfl ⟨I.K ho, r3, I.Kd k5 rfl, I.vi k5 (by omega) (by decide), r7, (by decide), I.K ho, r9, trivial⟩ ?_
        refine r_icmp k_M_tooLong rfl rfl (fun c13 => ?_) (fun c13 => ?_)
        · have I15 := I.set (k := (nI e).toNatClampNeg) (v := .int ((x8) / (nI 2))) k11 ⟨_, rfl⟩
          obtain ⟨a17, r16, k18, e19⟩ := I15.get ho hE (34)
          have k18 : κ a17 = (60, 2) := k18
          have I20 := I15.set (k := (nI e).toNatClampNeg) (v := .int (nI 1)) k18 ⟨_, rfl⟩
          obtain ⟨a22, r21, k23, e24⟩ := I20.get ho hE (37)
          have k23 : κ a22 = (63, 2) := k23
          have I25 := I20.set (k := (nI e).toNatClampNeg) (v := .int (nI 0)) k23 ⟨_, rfl⟩
          obtain ⟨a27, r26, k28, e29⟩ := I25.get ho hE (38)
          have k28 : κ a27 = (64, 2) := k28
          have I30 := I25.set (k := (nI e).toNatClampNeg) (v := narrow .boolean (.int (nI 1))) k28 ⟨_, rfl⟩
          obtain ⟨a32, r31, k33, e34⟩ := I30.get ho hE (39)
          have k33 : κ a32 = (65, 2) := k33
          obtain ⟨a36, r35, k37, e38⟩ := I30.get ho hE (10)
          have k37 : κ a36 = (36, 2) := k37
          obtain ⟨x40, r39⟩ := I30.get k37 e38 ((nI e).toNatClampNeg)
          refine ft_run_ok k_M_tooLong 26 _ _ _ _ [.ref a17, .ref a22, .ref a27, .ref a32, .ref a36, .long (x40)] rfl ⟨I.Kd k11 rfl, I.B k11, I.vi k11 (by omega) (by decide), I15.K ho, r16, I15.Kd k18 rfl, I15.B k18, I15.vi k18 (by omega) (by decide), I20.K ho, r21, I20.Kd k23 rfl, I20.B k23, I20.vi k23 (by omega) (by decide), I25.K ho, r26, I25.Kd k28 rfl, I25.B k28, I25.vi k28 (by omega) (by decide), I30.K ho, r31, I30.K ho, r35, I30.Kd k37 rfl, I30.vi k37 (by omega) (by decide), r39, trivial⟩ ?_
          refine r_callS (as := [.long ((x40) - (lN 1))]) (r := [.int (nI e), .ref a32]) k_M_tooLong rfl z_M_around rfl (Nat.le_of_ble_eq_true rfl) (Nat.le_of_ble_eq_true rfl) (Nat.le_of_ble_eq_true rfl) (Nat.le_of_ble_eq_true rfl) (t_M_around) ?_
          rintro v h' ⟨⟨x41, rfl⟩, rfl⟩
          have I42 := I30.set (k := (nI e).toNatClampNeg) (v := .long (x41)) k33 ⟨_, rfl⟩
          obtain ⟨a44, r43, k45, e46⟩ := I42.get ho hE (36)
          have k45 : κ a44 = (62, 2) := k45
          obtain ⟨a48, r47, k49, e50⟩ := I42.get ho hE (36)
          have k49 : κ a48 = (62, 2) := k49
          obtain ⟨x52, r51⟩ := I42.get k49 e50 ((nI e).toNatClampNeg)
          refine ft_run_ok k_M_tooLong 11 _ _ _ _ [.ref a44, .ref a48, .int (x52)] rfl ⟨I30.Kd k33 rfl, I30.B k33, I30.vi k33 (by omega) (by decide), I42.K ho, r43, I42.K ho, r47, I42.Kd k49 rfl, I42.vi k49 (by omega) (by decide), r51, trivial⟩ ?_
          refine r_icmp k_M_tooLong rfl rfl (fun c53 => ?_) (fun c53 => ?_)
          · obtain ⟨a56, r55, k57, e58⟩ := I42.get ho hE (36)
            have k57 : κ a56 = (62, 2) := k57
            obtain ⟨x60, r59⟩ := I42.get k57 e58 ((nI e).toNatClampNeg)
            have I61 := I42.set (k := (nI e).toNatClampNeg) (v := .int ((nI 2) * (x60))) k45 ⟨_, rfl⟩
            obtain ⟨a63, r62, k64, e65⟩ := I61.get ho hE (40)
            have k64 : κ a63 = (66, 2) := k64
            have r66 := I61.get ho hE (1)
            have I67 := I61.set (k := (nI e).toNatClampNeg) (v := .int (nI (P 1))) k64 ⟨_, rfl⟩
            refine ft_run_ok k_M_tooLong 13 _ _ _ _ [.ref a56, .int (x60), .ref a63, .int (nI (P 1))] rfl ⟨I42.K ho, r55, I42.Kd k57 rfl, I42.vi k57 (by omega) (by decide), r59, I42.Kd k45 rfl, I42.B k45, I42.vi k45 (by omega) (by decide), I61.K ho, r62, I61.K ho, r66, I61.Kd k64 rfl, I61.B k64, I61.vi k64 (by omega) (by decide), trivial⟩ ?_
            exact r_ret (v := none) k_M_tooLong rfl trivial (Nat.le_of_ble_eq_true rfl) (Nat.le_of_ble_eq_true rfl) ⟨rfl, I67⟩
          · have I69 := I42.set (k := (nI e).toNatClampNeg) (v := .int (nI 64)) k45 ⟨_, rfl⟩
            obtain ⟨a71, r70, k72, e73⟩ := I69.get ho hE (40)
            have k72 : κ a71 = (66, 2) := k72
            have r74 := I69.get ho hE (1)
            have I75 := I69.set (k := (nI e).toNatClampNeg) (v := .int (nI (P 1))) k72 ⟨_, rfl⟩
            refine ft_run_ok k_M_tooLong 9 _ _ _ _ [.ref a71, .int (nI (P 1))] rfl ⟨I42.Kd k45 rfl, I42.B k45, I42.vi k45 (by omega) (by decide), I69.K ho, r70, I69.K ho, r74, I69.Kd k72 rfl, I69.B k72, I69.vi k72 (by omega) (by decide), trivial⟩ ?_
            exact r_ret (v := none) k_M_tooLong rfl trivial (Nat.le_of_ble_eq_true rfl) (Nat.le_of_ble_eq_true rfl) ⟨rfl, I75⟩
        · have I77 := I.set (k := (nI e).toNatClampNeg) (v := .int (nI 2)) k11 ⟨_, rfl⟩
          obtain ⟨a79, r78, k80, e81⟩ := I77.get ho hE (34)
          have k80 : κ a79 = (60, 2) := k80
          have I82 := I77.set (k := (nI e).toNatClampNeg) (v := .int (nI 1)) k80 ⟨_, rfl⟩
          obtain ⟨a84, r83, k85, e86⟩ := I82.get ho hE (37)
          have k85 : κ a84 = (63, 2) := k85
          have I87 := I82.set (k := (nI e).toNatClampNeg) (v := .int (nI 0)) k85 ⟨_, rfl⟩
          obtain ⟨a89, r88, k90, e91⟩ := I87.get ho hE (38)
          have k90 : κ a89 = (64, 2) := k90
          have I92 := I87.set (k := (nI e).toNatClampNeg) (v := narrow .boolean (.int (nI 1))) k90 ⟨_, rfl⟩
          obtain ⟨a94, r93, k95, e96⟩ := I92.get ho hE (39)
          have k95 : κ a94 = (65, 2) := k95
          obtain ⟨a98, r97, k99, e100⟩ := I92.get ho hE (10)
          have k99 : κ a98 = (36, 2) := k99
          obtain ⟨x102, r101⟩ := I92.get k99 e100 ((nI e).toNatClampNeg)
          refine ft_run_ok k_M_tooLong 27 _ _ _ _ [.ref a79, .ref a84, .ref a89, .ref a94, .ref a98, .long (x102)] rfl ⟨I.Kd k11 rfl, I.B k11, I.vi k11 (by omega) (by decide), I77.K ho, r78, I77.Kd k80 rfl, I77.B k80, I77.vi k80 (by omega) (by decide), I82.K ho, r83, I82.Kd k85 rfl, I82.B k85, I82.vi k85 (by omega) (by decide), I87.K ho, r88, I87.Kd k90 rfl, I87.B k90, I87.vi k90 (by omega) (by decide), I92.K ho, r93, I92.K ho, r97, I92.Kd k99 rfl, I92.vi k99 (by omega) (by decide), r101, trivial⟩ ?_
          refine r_callS (as := [.long ((x102) - (lN 1))]) (r := [.int (nI e), .ref a94]) k_M_tooLong rfl z_M_around rfl (Nat.le_of_ble_eq_true rfl) (Nat.le_of_ble_eq_true rfl) (Nat.le_of_ble_eq_true rfl) (Nat.le_of_ble_eq_true rfl) (t_M_around) ?_
          rintro v h' ⟨⟨x103, rfl⟩, rfl⟩
          have I104 := I92.set (k := (nI e).toNatClampNeg) (v := .long (x103)) k95 ⟨_, rfl⟩
          obtain ⟨a106, r105, k107, e108⟩ := I104.get ho hE (36)
          have k107 : κ a106 = (62, 2) := k107
          obtain ⟨a110, r109, k111, e112⟩ := I104.get ho hE (36)
          have k111 : κ a110 = (62, 2) := k111
          obtain ⟨x114, r113⟩ := I104.get k111 e112 ((nI e).toNatClampNeg)
          refine ft_run_ok k_M_tooLong 11 _ _ _ _ [.ref a106, .ref a110, .int (x114)] rfl ⟨I92.Kd k95 rfl, I92.B k95, I92.vi k95 (by omega) (by decide), I104.K ho, r105, I104.K ho, r109, I104.Kd k111 rfl, I104.vi k111 (by omega) (by decide), r113, trivial⟩ ?_
          refine r_icmp k_M_tooLong rfl rfl (fun c115 => ?_) (fun c115 => ?_)
          · obtain ⟨a118, r117, k119, e120⟩ := I104.get ho hE (36)
            have k119 : κ a118 = (62, 2) := k119
            obtain ⟨x122, r121⟩ := I104.get k119 e120 ((nI e).toNatClampNeg)
            have I123 := I104.set (k := (nI e).toNatClampNeg) (v := .int ((nI 2) * (x122))) k107 ⟨_, rfl⟩
            obtain ⟨a125, r124, k126, e127⟩ := I123.get ho hE (40)
            have k126 : κ a125 = (66, 2) := k126
            have r128 := I123.get ho hE (1)
            have I129 := I123.set (k := (nI e).toNatClampNeg) (v := .int (nI (P 1))) k126 ⟨_, rfl⟩
            refine ft_run_ok k_M_tooLong 13 _ _ _ _ [.ref a118, .int (x122), .ref a125, .int (nI (P 1))] rfl ⟨I104.K ho, r117, I104.Kd k119 rfl, I104.vi k119 (by omega) (by decide), r121, I104.Kd k107 rfl, I104.B k107, I104.vi k107 (by omega) (by decide), I123.K ho, r124, I123.K ho, r128, I123.Kd k126 rfl, I123.B k126, I123.vi k126 (by omega) (by decide), trivial⟩ ?_
            exact r_ret (v := none) k_M_tooLong rfl trivial (Nat.le_of_ble_eq_true rfl) (Nat.le_of_ble_eq_true rfl) ⟨rfl, I129⟩
          · have I131 := I104.set (k := (nI e).toNatClampNeg) (v := .int (nI 64)) k107 ⟨_, rfl⟩
            obtain ⟨a133, r132, k134, e135⟩ := I131.get ho hE (40)
            have k134 : κ a133 = (66, 2) := k134
            have r136 := I131.get ho hE (1)
            have I137 := I131.set (k := (nI e).toNatClampNeg) (v := .int (nI (P 1))) k134 ⟨_, rfl⟩
            refine ft_run_ok k_M_tooLong 9 _ _ _ _ [.ref a133, .int (nI (P 1))] rfl ⟨I104.Kd k107 rfl, I104.B k107, I104.vi k107 (by omega) (by decide), I131.K ho, r132, I131.K ho, r136, I131.Kd k134 rfl, I131.B k134, I131.vi k134 (by omega) (by decide), trivial⟩ ?_
            exact r_ret (v := none) k_M_tooLong rfl trivial (Nat.le_of_ble_eq_true rfl) (Nat.le_of_ble_eq_true rfl) ⟨rfl, I137⟩
      · have g138 := ft_nle (a := j) (b := 256) (by omega) (by omega) c1
        obtain ⟨a140, r139, k141, e142⟩ := I.get ho hE (10)
        have k141 : κ a140 = (36, 2) := k141
        obtain ⟨x144, r143⟩ := I.get k141 e142 ((nI e).toNatClampNeg)
        refine ft_run_ok k_M_tooLong 7 _ _ _ _ [.ref a140, .long (x144)] rfl ⟨I.K ho, r139, I.Kd k141 rfl, I.vi k141 (by omega) (by decide), r143, trivial⟩ ?_
        refine r_callS (as := [.long ((x144) - ((nI j).toInt64))]) (r := []) k_M_tooLong rfl z_M_around rfl (Nat.le_of_ble_eq_true rfl) (Nat.le_of_ble_eq_true rfl) (Nat.le_of_ble_eq_true rfl) (Nat.le_of_ble_eq_true rfl) (t_M_around) ?_
        rintro v h' ⟨⟨x145, rfl⟩, rfl⟩
        refine ft_run_ok k_M_tooLong 4 _ _ _ _ [] rfl trivial ?_
        refine r_callV (as := [.int (nI e), .long (x145)]) (a := o) (ci := 11) (r := []) k_M_tooLong rfl z_M_isOwn rfl (by decide) rfl (I.K ho) (Nat.le_of_ble_eq_true rfl) (Nat.le_of_ble_eq_true rfl) (Nat.le_of_ble_eq_true rfl) (Nat.le_of_ble_eq_true rfl) (t_M_isOwn I ho hE (e := e) rfl (by omega)) ?_
        rintro v h' ⟨⟨n146, b147, rfl⟩, rfl⟩
        refine r_if k_M_tooLong rfl rfl (fun c148 => ?_) (fun c148 => ?_)
        · have g149 := ft_eq0 (a := n146) (by omega) c148
          refine ft_run_ok k_M_tooLong 2 _ _ _ _ [] rfl trivial ?_
          rw [show ((nI j) + nI 1) = nI (j + 1) from by simp only [nI_add, pk_mul]]
          exact sm_sub [2, 3, 0] rfl (ih31 (j + 1) (by omega) (by omega) _ I)
        · have g150 := ft_ne0 (a := n146) c148
          obtain ⟨a152, r151, k153, e154⟩ := I.get ho hE (17)
          have k153 : κ a152 = (43, 512) := k153
          refine ft_run_ok k_M_tooLong 4 _ _ _ _ [.ref a152] rfl ⟨I.K ho, r151, trivial⟩ ?_
          refine r_callS (as := [.int (nI e), .long (x145)]) (r := [.ref a152]) k_M_tooLong rfl z_M_at rfl (Nat.le_of_ble_eq_true rfl) (Nat.le_of_ble_eq_true rfl) (Nat.le_of_ble_eq_true rfl) (Nat.le_of_ble_eq_true rfl) (t_M_at (e := e) rfl (by omega)) ?_
          rintro v h' ⟨⟨n155, b156, rfl⟩, rfl⟩
          obtain ⟨x158, r157⟩ := I.get k153 e154 ((nI n155).toNatClampNeg)
          refine ft_run_ok k_M_tooLong 2 _ _ _ _ [.int (x158)] rfl ⟨I.Kd k153 rfl, I.vi k153 (by omega) (by decide), r157, trivial⟩ ?_
          refine r_icmp k_M_tooLong rfl rfl (fun c159 => ?_) (fun c159 => ?_)
          · refine ft_run_ok k_M_tooLong 2 _ _ _ _ [] rfl trivial ?_
            rw [show ((nI j) + nI 1) = nI (j + 1) from by simp only [nI_add, pk_mul]]
            exact sm_sub [2, 3, 0] rfl (ih31 (j + 1) (by omega) (by omega) _ I)
          · obtain ⟨a163, r162, k164, e165⟩ := I.get ho hE (17)
            have k164 : κ a163 = (43, 512) := k164
            refine ft_run_ok k_M_tooLong 4 _ _ _ _ [.ref a163] rfl ⟨I.K ho, r162, trivial⟩ ?_
            refine r_callS (as := [.int (nI e), .long (x145)]) (r := [.ref a163]) k_M_tooLong rfl z_M_at rfl (Nat.le_of_ble_eq_true rfl) (Nat.le_of_ble_eq_true rfl) (Nat.le_of_ble_eq_true rfl) (Nat.le_of_ble_eq_true rfl) (t_M_at (e := e) rfl (by omega)) ?_
            rintro v h' ⟨⟨n166, b167, rfl⟩, rfl⟩
            have I168 := I.set (k := (nI n166).toNatClampNeg) (v := .int (nI 3)) k164 ⟨_, rfl⟩
            refine ft_run_ok k_M_tooLong 4 _ _ _ _ [] rfl ⟨I.Kd k164 rfl, I.B k164, I.vi k164 (by omega) (by decide), trivial⟩ ?_
            rw [show ((nI j) + nI 1) = nI (j + 1) from by simp only [nI_add, pk_mul]]
            exact sm_sub [2, 3, 0] rfl (ih31 (j + 1) (by omega) (by omega) _ I168)
  refine ft_run_ok k_M_tooLong 2 _ _ _ _ [] rfl trivial ?_
  refine r_callV (as := [.int (nI e)]) (a := o) (ci := 11) (r := []) k_M_tooLong rfl z_M_pipe rfl (by decide) rfl (I.K ho) (Nat.le_of_ble_eq_true rfl) (Nat.le_of_ble_eq_true rfl) (Nat.le_of_ble_eq_true rfl) (Nat.le_of_ble_eq_true rfl) (t_M_pipe I ho hE (e := e) rfl (by omega)) ?_
  rintro v h' ⟨⟨x169, rfl⟩, rfl⟩
  refine r_if k_M_tooLong rfl rfl (fun c170 => ?_) (fun c170 => ?_)
  · exact r_ret (v := none) k_M_tooLong rfl trivial (Nat.le_of_ble_eq_true rfl) (Nat.le_of_ble_eq_true rfl) ⟨rfl, I⟩
  · have r173 := I.get ho hE (1)
    obtain ⟨a175, r174, k176, e177⟩ := I.get ho hE (40)
    have k176 : κ a175 = (66, 2) := k176
    obtain ⟨x179, r178⟩ := I.get k176 e177 ((nI e).toNatClampNeg)
    obtain ⟨a181, r180, k182, e183⟩ := I.get ho hE (36)
    have k182 : κ a181 = (62, 2) := k182
    obtain ⟨x185, r184⟩ := I.get k182 e183 ((nI e).toNatClampNeg)
    refine ft_run_ok k_M_tooLong 11 _ _ _ _ [.int (nI (P 1)), .ref a175, .int (x179), .ref a181, .int (x185)] rfl ⟨I.K ho, r173, I.K ho, r174, I.Kd k176 rfl, I.vi k176 (by omega) (by decide), r178, I.K ho, r180, I.Kd k182 rfl, I.vi k182 (by omega) (by decide), r184, trivial⟩ ?_
    refine r_icmp k_M_tooLong rfl rfl (fun c186 => ?_) (fun c186 => ?_)
    · refine ft_run_ok k_M_tooLong 2 _ _ _ _ [] rfl trivial ?_
      exact sm_sub [1, 2, 0] rfl (L31 _ (1) (by omega) (Nat.lt_succ_self _) _ I)
    · exact r_ret (v := none) k_M_tooLong rfl trivial (Nat.le_of_ble_eq_true rfl) (Nat.le_of_ble_eq_true rfl) ⟨rfl, I⟩
end M3
