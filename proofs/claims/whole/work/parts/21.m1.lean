section M1
variable {D : ft_G} {h : ft_H}
/-- an answer 0 or 1, and what it says -/
def ans (b : Prop) (v : Option Value) : Prop := (v = some (.int 1) ∧ b) ∨ (v = some (.int 0) ∧ ¬ b)
theorem t_M_around {x : Int64} : sm D y_M_around 0 (lv_args 0 [.long x]) [] h 0 0 (fun v h' => h' = h ∧ v = some (.long (x &&& lN 281474976710655))) := by
  refine ft_run_ok k_M_around 3 0 _ _ _ [] rfl trivial ?_
  exact r_ret (v := some (.long _)) k_M_around rfl trivial (Nat.le_refl 0) (Nat.le_refl 0) ⟨rfl, rfl⟩
theorem t_M_in {x lo up : Int64} : sm D y_M_in 0 (lv_args 0 [.long x, .long lo, .long up]) [] h 0 0 (fun v h' => h' = h ∧ ans (lo ≤ x ∧ x ≤ up) v) := by
  refine ft_run_ok k_M_in 3 0 _ _ _ [] rfl trivial ?_
  refine r_if k_M_in rfl rfl (fun c1 => ?_) (fun c1 => ?_)
  · refine ft_run_ok k_M_in 1 _ _ _ _ [] rfl trivial ?_
    exact r_ret (v := some (.int 0)) k_M_in rfl rfl (Nat.le_refl 0) (Nat.le_refl 0) ⟨rfl, Or.inr ⟨rfl, fun z => Int64.not_lt.mpr z.1 ((lg_cmp_gt _ _).mp c1)⟩⟩
  · refine ft_run_ok k_M_in 3 _ _ _ _ [] rfl trivial ?_
    refine r_if k_M_in rfl rfl (fun c2 => ?_) (fun c2 => ?_)
    · refine ft_run_ok k_M_in 1 _ _ _ _ [] rfl trivial ?_
      exact r_ret (v := some (.int 0)) k_M_in rfl rfl (Nat.le_refl 0) (Nat.le_refl 0) ⟨rfl, Or.inr ⟨rfl, fun z => Int64.not_lt.mpr z.2 ((lg_cmp_gt _ _).mp c2)⟩⟩
    · refine ft_run_ok k_M_in 2 _ _ _ _ [] rfl trivial ?_
      exact r_ret (v := some (.int 1)) k_M_in rfl rfl (Nat.le_refl 0) (Nat.le_refl 0) ⟨rfl, Or.inl ⟨rfl, Int64.not_lt.mp (fun z => c1 ((lg_cmp_gt _ _).mpr z)), Int64.not_lt.mp (fun z => c2 ((lg_cmp_gt _ _).mpr z))⟩⟩
theorem t_M_at {e : Nat} {x : Int64} (he : e ≤ 1) : sm D y_M_at 0 (lv_args 0 [.int (nI e), .long x]) [] h 0 0 (fun v h' => h' = h ∧ ∃ j : Nat, j < 512 ∧ v = some (.int (nI j))) := by
  refine ft_run_ok k_M_at 8 0 _ _ _ [] rfl trivial ?_
  refine r_ret (v := some (.int _)) k_M_at rfl trivial (Nat.le_refl 0) (Nat.le_refl 0) ⟨rfl, 256 * e + (x &&& 255).toInt32.toNatClampNeg, ?_, ?_⟩
  · sorry
  · sorry
theorem t_M_feat {e w f : Nat} : sm D y_M_feat 0 (lv_args 0 [.int (nI e), .int (nI w), .int (nI f)]) [] h 0 0 (fun v h' => h' = h ∧ v = some (.int (nI (10 * e + 5 * w + f)))) := by
  refine ft_run_ok k_M_feat 9 0 _ _ _ [] rfl trivial ?_
  refine r_ret (v := some (.int _)) k_M_feat rfl trivial (Nat.le_refl 0) (Nat.le_refl 0) ⟨rfl, ?_⟩
  rw [pk_mul, pk_mul, nI_add, nI_add]
theorem t_M_after {a b : Int64} : sm D y_M_after 0 (lv_args 0 [.long a, .long b]) [] h 0 0 (fun v h' => h' = h ∧ ans (lN 1 ≤ (a - b) &&& lN 281474976710655 ∧ (a - b) &&& lN 281474976710655 ≤ lN 140737488355327) v) := by
  refine ft_run_ok k_M_after 3 0 _ _ _ [] rfl trivial ?_
  refine r_callS (as := [.long (a - b)]) (r := []) k_M_after rfl z_M_around rfl (Nat.le_of_ble_eq_true rfl) (Nat.le_of_ble_eq_true rfl) (Nat.le_of_ble_eq_true rfl) (Nat.le_of_ble_eq_true rfl) t_M_around ?_
  rintro v h' ⟨rfl, rfl⟩
  refine ft_run_ok k_M_after 2 _ _ _ _ [] rfl trivial ?_
  refine r_callS (as := [.long ((a - b) &&& lN 281474976710655), .long (lN 1), .long (lN 140737488355327)]) (r := []) k_M_after rfl z_M_in rfl (Nat.le_of_ble_eq_true rfl) (Nat.le_of_ble_eq_true rfl) (Nat.le_of_ble_eq_true rfl) (Nat.le_of_ble_eq_true rfl) t_M_in ?_
  rintro v h' ⟨rfl, hv⟩
  rcases hv with ⟨rfl, hb⟩ | ⟨rfl, hb⟩
  · exact r_ret (v := some (.int 1)) k_M_after rfl rfl (Nat.le_of_ble_eq_true rfl) (Nat.le_of_ble_eq_true rfl) ⟨rfl, Or.inl ⟨rfl, hb⟩⟩
  · exact r_ret (v := some (.int 0)) k_M_after rfl rfl (Nat.le_of_ble_eq_true rfl) (Nat.le_of_ble_eq_true rfl) ⟨rfl, Or.inr ⟨rfl, hb⟩⟩
variable {κ : Nat → Nat × Nat} {n : Nat} {E : Nat → Prop} {P : Nat → Nat}
theorem t_M_become {o e : Nat} {s : Int32} (I : Iv D κ n E P h) (ho : κ o = (kd_M, 0)) (hE : ¬ E o) (he : e < 2) : sm D y_M_become 0 (lv_args 0 [.ref o, .int (nI e), .int s]) [] h 0 0 (fun v h' => v = none ∧ Iv D κ n E P h') := by
  obtain ⟨a1, r1, k1, e1⟩ := I.get ho hE pl_M_state
  refine ft_run_ok k_M_become 5 0 _ _ _ [.ref a1] rfl ⟨I.K ho, r1, I.Kd k1 rfl, I.B k1, I.vi k1 he (by decide), trivial⟩ ?_
  have I := I.set k1 (k := (nI e).toNatClampNeg) (v := .int s) ⟨_, rfl⟩
  obtain ⟨a2, r2, k2, e2⟩ := I.get ho hE pl_M_begun
  have t2 := I.get ho hE pl_M_now
  refine ft_run_ok k_M_become 6 _ _ _ _ [.ref a2, .int (nI (P 1))] rfl ⟨I.K ho, r2, I.K ho, t2, I.Kd k2 rfl, I.B k2, I.vi k2 he (by decide), trivial⟩ ?_
  have I := I.set k2 (k := (nI e).toNatClampNeg) (v := .int (nI (P 1))) ⟨_, rfl⟩
  obtain ⟨a3, r3, k3, e3⟩ := I.get ho hE pl_M_times
  refine ft_run_ok k_M_become 5 _ _ _ _ [.ref a3] rfl ⟨I.K ho, r3, I.Kd k3 rfl, I.B k3, I.vi k3 he (by decide), trivial⟩ ?_
  have I := I.set k3 (k := (nI e).toNatClampNeg) (v := .int (nI 1)) ⟨_, rfl⟩
  obtain ⟨a4, r4, k4, e4⟩ := I.get ho hE pl_M_lastTime
  have t4 := I.get ho hE pl_M_now
  refine ft_run_ok k_M_become 6 _ _ _ _ [.ref a4, .int (nI (P 1))] rfl ⟨I.K ho, r4, I.K ho, t4, I.Kd k4 rfl, I.B k4, I.vi k4 he (by decide), trivial⟩ ?_
  have I := I.set k4 (k := (nI e).toNatClampNeg) (v := .int (nI (P 1))) ⟨_, rfl⟩
  exact r_ret (v := none) k_M_become rfl trivial (Nat.le_refl 0) (Nat.le_refl 0) ⟨rfl, I⟩
end M1
