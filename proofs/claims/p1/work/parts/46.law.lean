/-! the law on a script of at most nine ints: one call at most -/
section LAW1
variable {D : ft_G} {h0 : ft_H}
abbrev dLen (D : ft_G) : Nat := D.2.2.2.2.2.2.1
abbrev dScr (D : ft_G) : Nat → Int32 := D.2.2.2.2.2.2.2
def scr (D : ft_G) (k : Nat) : Int32 := if k < dLen D then dScr D k else nI 0
theorem t_cell {h : ft_H} {k : Nat} (hk : k < 3) (hL : dLen D ≤ 9) : sm D y_L_cell 0 (lv_args 0 [.ref D.2.2.2.2.2.1, .int (nI k)]) [] h 0 0 (fun v h' => v = some (.int (scr D k)) ∧ h' = h) := by
  refine ft_run_ok k_L_cell 2 _ _ _ _ [] rfl trivial ?_
  obtain ⟨hd2, -, -⟩ := ft_row_ok (y := y_L_cell) (pc := 2) k_L_cell rfl
  refine sm_slen (v := .int (nI (dLen D))) hd2 rfl ?_
  refine r_icmp k_L_cell rfl rfl (fun c => ?_) (fun c => ?_)
  · have g := ft_le (a := dLen D) (b := k) (by omega) (by omega) c
    refine ft_run_ok k_L_cell 1 _ _ _ _ [] rfl trivial ?_
    exact r_ret (v := some (.int (nI 0))) k_L_cell rfl trivial (Nat.le_of_ble_eq_true rfl) (Nat.le_of_ble_eq_true rfl) ⟨by unfold scr; rw [if_neg (by omega)], rfl⟩
  · have g := ft_nle (a := k) (b := dLen D) (by omega) (by omega) c
    refine ft_run_ok k_L_cell 2 _ _ _ _ [] rfl trivial ?_
    obtain ⟨hd8, -, -⟩ := ft_row_ok (y := y_L_cell) (pc := 8) k_L_cell rfl
    refine sm_sld hd8 (vpE g (show dLen D < 2147483648 by omega)) ?_
    rw [clampE (by omega)]
    refine ft_run_ok k_L_cell 1 _ _ _ _ [] rfl trivial ?_
    exact r_ret (v := some (.int (dScr D k))) k_L_cell rfl trivial (Nat.le_of_ble_eq_true rfl) (Nat.le_of_ble_eq_true rfl) ⟨by unfold scr; rw [if_pos g], rfl⟩
/-- the names of the script's values, and of the delay -/
def rh (D : ft_G) : Nat → Int32 := fun j => if j = 9 then ftFm5 (scr D 2) else scr D j
def sg (D : ft_G) : Nat → Int64 := fun j => if j = ownJ (scr D 0) then lN 18446744073709551615 else lN 0
theorem hD_empty (hn : h0.2.2 = ft_B D) : hD D (rh D) (sg D) h0 (0, tE) = h0 := by
  refine Prod.ext ?_ (Prod.ext ?_ hn.symm)
  · funext b j
    show (if b < ft_B D then h0.1 b j else h0.1 b j) = h0.1 b j
    split <;> rfl
  · funext b
    show (if b < ft_B D then h0.2.1 b else h0.2.1 b) = h0.2.1 b
    split <;> rfl
theorem XOK0 : XOK D (rh D) (sg D) (0, []) := fun h => absurd h (Nat.lt_irrefl 0)
theorem BOKn {ρ : Nat → Int32} {σ : Nat → Int64} : BOK ρ σ [] := fun q hq => by cases hq
theorem BOKc {ρ : Nat → Int32} {σ : Nat → Int64} {e : AE} {lo hi : Nat} {B : BD} (h : lo ≤ ov ρ σ e ∧ ov ρ σ e ≤ hi) (hB : BOK ρ σ B) : BOK ρ σ ((e, lo, hi) :: B) := fun q hq => by
  rcases List.mem_cons.mp hq with e1 | e1
  · rw [e1]; exact h
  · exact hB q e1
theorem made_F : sm D y_F_init 0 (lv_args 0 [.ref (ft_B D), .long (scr D 0).toInt64, .long (scr D 1).toInt64, .int (scr D 2)]) [] (hD D (rh D) (sg D) h0 hp0) 0 0 (fun v h' => v = none ∧ h' = hD D (rh D) (sg D) h0 hp1) := by
  obtain ⟨B, e⟩ := oneOut_ok run_F
  have q := ax_ok (D := D) (ρ := rh D) (σ := (sg D)) (h0 := h0) (axS_ok rfl) axC_ok XOK0 100000 [] y_F_init mr_F_init 0 lvF [] hp0 0 0 _ BOKn mo_F_init e
  refine sm.mono q ?_
  rintro v h' ⟨o, ho, -, hv, hh⟩
  rw [List.mem_singleton] at ho
  subst ho
  exact ⟨hv, hh⟩
theorem made_M : sm D y_M_init 0 (lv_args 0 [.ref (ft_B D + 215), .long (scr D 0).toInt64, .long (scr D 1).toInt64, .int (scr D 2)]) [] (hD D (rh D) (sg D) h0 hp2) 0 0 (fun v h' => v = none ∧ h' = hD D (rh D) (sg D) h0 hp3) := by
  obtain ⟨B, e⟩ := oneOut_ok run_M
  have q := ax_ok (D := D) (ρ := rh D) (σ := (sg D)) (h0 := h0) (axS_ok rfl) axC_ok XOK0 100000 [] y_M_init mr_M_init 0 lvM [] hp2 0 0 _ BOKn mo_M_init e
  refine sm.mono q ?_
  rintro v h' ⟨o, ho, -, hv, hh⟩
  rw [List.mem_singleton] at ho
  subst ho
  exact ⟨hv, hh⟩
theorem new_F (hn : h0.2.2 = ft_B D) : ft_new h0 (1, 0) (fun k => defaultValue (ft_ty 0 k)) = hD D (rh D) (sg D) h0 hp0 := by
  have q := hD_new (D := D) (ρ := rh D) (σ := (sg D)) (h0 := h0) (f := fun k => defaultValue (ft_ty 0 k)) run_new.2 (fun j => dfT_obj 0 j)
  rw [hD_empty hn] at q
  exact q
theorem new_M : ft_new (hD D (rh D) (sg D) h0 hp1) (12, 0) (fun k => defaultValue (ft_ty 11 k)) = hD D (rh D) (sg D) h0 hp2 :=
  hD_new (D := D) (ρ := rh D) (σ := (sg D)) (h0 := h0) (f := fun k => defaultValue (ft_ty 11 k)) run_new.1 (fun j => dfT_obj 11 j)
theorem hp1_n : (hD D (rh D) (sg D) h0 hp1).2.2 = ft_B D + 215 := rfl
set_option maxRecDepth 100000 in
/-- both are made: the law stands at its loop's head -/
theorem law_pre (hL : dLen D ≤ 9) (hn : h0.2.2 = ft_B D) {Q : Option Value → ft_H → Prop} (k : sm D 0 52 [(3, .int (nI 3)), (2, .ref (ft_B D + 215)), (1, .ref (ft_B D)), (0, .ref D.2.2.2.2.2.1)] [] (hD D (rh D) (sg D) h0 hp3) 273 54730 Q) : sm D 0 0 [(0, .ref D.2.2.2.2.2.1)] [] h0 0 0 Q := by
  refine r_newO 0 k_L_law rfl (Nat.le_of_ble_eq_true rfl) (Nat.le_of_ble_eq_true rfl) ?_
  rw [new_F hn, hn]
  refine ft_run_ok k_L_law 3 _ _ _ _ [] rfl trivial ?_
  refine r_callS (as := [.ref D.2.2.2.2.2.1, .int (nI 0)]) (r := [.ref (ft_B D), .ref (ft_B D)]) k_L_law rfl z_L_cell rfl (Nat.le_of_ble_eq_true rfl) (Nat.le_of_ble_eq_true rfl) (Nat.le_of_ble_eq_true rfl) (Nat.le_of_ble_eq_true rfl) (t_cell (by omega) hL) ?_
  rintro v h' ⟨rfl, rfl⟩
  refine ft_run_ok k_L_law 3 _ _ _ _ [] rfl trivial ?_
  refine r_callS (as := [.ref D.2.2.2.2.2.1, .int (nI 1)]) (r := [.long (scr D 0).toInt64, .ref (ft_B D), .ref (ft_B D)]) k_L_law rfl z_L_cell rfl (Nat.le_of_ble_eq_true rfl) (Nat.le_of_ble_eq_true rfl) (Nat.le_of_ble_eq_true rfl) (Nat.le_of_ble_eq_true rfl) (t_cell (by omega) hL) ?_
  rintro v h' ⟨rfl, rfl⟩
  refine ft_run_ok k_L_law 3 _ _ _ _ [] rfl trivial ?_
  refine r_callS (as := [.ref D.2.2.2.2.2.1, .int (nI 2)]) (r := [.long (scr D 1).toInt64, .long (scr D 0).toInt64, .ref (ft_B D), .ref (ft_B D)]) k_L_law rfl z_L_cell rfl (Nat.le_of_ble_eq_true rfl) (Nat.le_of_ble_eq_true rfl) (Nat.le_of_ble_eq_true rfl) (Nat.le_of_ble_eq_true rfl) (t_cell (by omega) hL) ?_
  rintro v h' ⟨rfl, rfl⟩
  refine r_callI (as := [.long (scr D 0).toInt64, .long (scr D 1).toInt64, .int (scr D 2)]) (a := ft_B D) (r := [.ref (ft_B D)]) k_L_law rfl z_F_init rfl (Nat.le_of_ble_eq_true rfl) (Nat.le_of_ble_eq_true rfl) (Nat.le_of_ble_eq_true rfl) (Nat.le_of_ble_eq_true rfl) made_F ?_
  rintro v h' ⟨rfl, rfl⟩
  refine ft_run_ok k_L_law 1 _ _ _ _ [] rfl trivial ?_
  refine r_newO 0 k_L_law rfl (Nat.le_of_ble_eq_true rfl) (Nat.le_of_ble_eq_true rfl) ?_
  rw [new_M, hp1_n]
  refine ft_run_ok k_L_law 3 _ _ _ _ [] rfl trivial ?_
  refine r_callS (as := [.ref D.2.2.2.2.2.1, .int (nI 0)]) (r := [.ref (ft_B D + 215), .ref (ft_B D + 215)]) k_L_law rfl z_L_cell rfl (Nat.le_of_ble_eq_true rfl) (Nat.le_of_ble_eq_true rfl) (Nat.le_of_ble_eq_true rfl) (Nat.le_of_ble_eq_true rfl) (t_cell (by omega) hL) ?_
  rintro v h' ⟨rfl, rfl⟩
  refine ft_run_ok k_L_law 3 _ _ _ _ [] rfl trivial ?_
  refine r_callS (as := [.ref D.2.2.2.2.2.1, .int (nI 1)]) (r := [.long (scr D 0).toInt64, .ref (ft_B D + 215), .ref (ft_B D + 215)]) k_L_law rfl z_L_cell rfl (Nat.le_of_ble_eq_true rfl) (Nat.le_of_ble_eq_true rfl) (Nat.le_of_ble_eq_true rfl) (Nat.le_of_ble_eq_true rfl) (t_cell (by omega) hL) ?_
  rintro v h' ⟨rfl, rfl⟩
  refine ft_run_ok k_L_law 3 _ _ _ _ [] rfl trivial ?_
  refine r_callS (as := [.ref D.2.2.2.2.2.1, .int (nI 2)]) (r := [.long (scr D 1).toInt64, .long (scr D 0).toInt64, .ref (ft_B D + 215), .ref (ft_B D + 215)]) k_L_law rfl z_L_cell rfl (Nat.le_of_ble_eq_true rfl) (Nat.le_of_ble_eq_true rfl) (Nat.le_of_ble_eq_true rfl) (Nat.le_of_ble_eq_true rfl) (t_cell (by omega) hL) ?_
  rintro v h' ⟨rfl, rfl⟩
  refine r_callI (as := [.long (scr D 0).toInt64, .long (scr D 1).toInt64, .int (scr D 2)]) (a := ft_B D + 215) (r := [.ref (ft_B D + 215)]) k_L_law rfl z_M_init rfl (Nat.le_of_ble_eq_true rfl) (Nat.le_of_ble_eq_true rfl) (Nat.le_of_ble_eq_true rfl) (Nat.le_of_ble_eq_true rfl) made_M ?_
  rintro v h' ⟨rfl, rfl⟩
  refine ft_run_ok k_L_law 3 _ _ _ _ [] rfl trivial ?_
  exact k
end LAW1
