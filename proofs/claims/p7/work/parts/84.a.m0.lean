section M1
variable {D : ft_G} {h : ft_H}
theorem t_M_around {x : Int64} : sm D y_M_around 0 (lv_args 0 [.long x]) [] h 0 0 (fun v h' => (∃ y : Nat, y < 281474976710656 ∧ v = some (.long (lN y))) ∧ h' = h) := by
  obtain ⟨z, hz, rfl⟩ := wb_of x
  refine ft_run_ok k_M_around 3 0 _ _ _ [] rfl trivial ?_
  exact r_ret (v := some (.long _)) k_M_around rfl trivial (Nat.le_refl 0) (Nat.le_refl 0) ⟨⟨z % 2 ^ 48, Nat.mod_lt _ (by decide), congrArg (fun q => some (Value.long q)) (wb_mask (n := z) (k := 48) hz (by decide))⟩, rfl⟩
theorem t_M_in {x lo up : Int64} : sm D y_M_in 0 (lv_args 0 [.long x, .long lo, .long up]) [] h 0 0 (fun v h' => (∃ b : Nat, b ≤ 1 ∧ v = some (.int (nI b)) ∧ (b = 1 ↔ lo ≤ x ∧ x ≤ up)) ∧ h' = h) := by
  refine ft_run_ok k_M_in 3 0 _ _ _ [] rfl trivial ?_
  refine r_if k_M_in rfl rfl (fun c1 => ?_) (fun c1 => ?_)
  · refine ft_run_ok k_M_in 1 _ _ _ _ [] rfl trivial ?_
    exact r_ret (v := some (.int (nI 0))) k_M_in rfl rfl (Nat.le_refl 0) (Nat.le_refl 0) ⟨⟨0, by omega, rfl, ⟨fun z => by omega, fun z => absurd ((lg_cmp_gt _ _).mp c1) (Int64.not_lt.mpr z.1)⟩⟩, rfl⟩
  · refine ft_run_ok k_M_in 3 _ _ _ _ [] rfl trivial ?_
    refine r_if k_M_in rfl rfl (fun c2 => ?_) (fun c2 => ?_)
    · refine ft_run_ok k_M_in 1 _ _ _ _ [] rfl trivial ?_
      exact r_ret (v := some (.int (nI 0))) k_M_in rfl rfl (Nat.le_refl 0) (Nat.le_refl 0) ⟨⟨0, by omega, rfl, ⟨fun z => by omega, fun z => absurd ((lg_cmp_gt _ _).mp c2) (Int64.not_lt.mpr z.2)⟩⟩, rfl⟩
    · refine ft_run_ok k_M_in 2 _ _ _ _ [] rfl trivial ?_
      exact r_ret (v := some (.int (nI 1))) k_M_in rfl rfl (Nat.le_refl 0) (Nat.le_refl 0) ⟨⟨1, by omega, rfl, ⟨fun _ => ⟨Int64.not_lt.mp (fun z => c1 ((lg_cmp_gt _ _).mpr z)), Int64.not_lt.mp (fun z => c2 ((lg_cmp_gt _ _).mpr z))⟩, fun _ => rfl⟩⟩, rfl⟩
set_option maxRecDepth 100000 in
theorem t_M_after {a : Int64} {b : Int64}  : sm D y_M_after 0 (lv_args 0 [.long a, .long b]) [] h 0 0 (fun v h' => (∃ b : Nat, b ≤ 1 ∧ v = some (.int (nI b))) ∧ h' = h) := by
  refine ft_run_ok k_M_after 3 _ _ _ _ [] rfl trivial ?_
  refine r_callS (as := [.long ((a) - (b))]) (r := []) k_M_after rfl z_M_around rfl (Nat.le_of_ble_eq_true rfl) (Nat.le_of_ble_eq_true rfl) (Nat.le_of_ble_eq_true rfl) (Nat.le_of_ble_eq_true rfl) (t_M_around) ?_
  rintro v h' ⟨⟨n1, b2, rfl⟩, rfl⟩
  refine ft_run_ok k_M_after 2 _ _ _ _ [] rfl trivial ?_
  refine r_callS (as := [.long (lN n1), .long (lN 1), .long (lN 140737488355327)]) (r := []) k_M_after rfl z_M_in rfl (Nat.le_of_ble_eq_true rfl) (Nat.le_of_ble_eq_true rfl) (Nat.le_of_ble_eq_true rfl) (Nat.le_of_ble_eq_true rfl) (t_M_in) ?_
  rintro v h' ⟨⟨n3, b4, rfl, m5⟩, rfl⟩
  exact r_ret (v := some (.int (nI n3))) k_M_after rfl (ft_nb (by omega)) (Nat.le_of_ble_eq_true rfl) (Nat.le_of_ble_eq_true rfl) ⟨⟨n3, by omega, rfl⟩, rfl⟩
set_option maxRecDepth 100000 in
theorem t_M_before {a : Int64} {b : Int64}  : sm D y_M_before 0 (lv_args 0 [.long a, .long b]) [] h 0 0 (fun v h' => (∃ b : Nat, b ≤ 1 ∧ v = some (.int (nI b))) ∧ h' = h) := by
  refine ft_run_ok k_M_before 2 _ _ _ _ [] rfl trivial ?_
  refine r_callS (as := [.long (b), .long (a)]) (r := []) k_M_before rfl z_M_after rfl (Nat.le_of_ble_eq_true rfl) (Nat.le_of_ble_eq_true rfl) (Nat.le_of_ble_eq_true rfl) (Nat.le_of_ble_eq_true rfl) (t_M_after) ?_
  rintro v h' ⟨⟨n1, b2, rfl⟩, rfl⟩
  exact r_ret (v := some (.int (nI n1))) k_M_before rfl (ft_nb (by omega)) (Nat.le_of_ble_eq_true rfl) (Nat.le_of_ble_eq_true rfl) ⟨⟨n1, by omega, rfl⟩, rfl⟩
theorem t_M_at {e : Nat} {x_e : Int32} {x : Int64} (q_e : x_e = nI e) (h_e : e < 2) : sm D y_M_at 0 (lv_args 0 [.int x_e, .long x]) [] h 0 0 (fun v h' => (∃ j : Nat, j < 512 ∧ v = some (.int (nI j))) ∧ h' = h) := by
  subst q_e
  refine ft_run_ok k_M_at 8 0 _ _ _ [] rfl trivial ?_
  obtain ⟨j, hj, ej⟩ := ft_and255 x
  exact r_ret (v := some (.int _)) k_M_at rfl trivial (Nat.le_refl 0) (Nat.le_refl 0) ⟨⟨256 * e + j, by omega, by rw [ej]; simp only [nI_add, pk_mul]⟩, rfl⟩
end M1
