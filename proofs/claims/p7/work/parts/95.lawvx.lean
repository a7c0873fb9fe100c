/-! the law's loop by a walk, and the law from its entry -/
def lv_md : MD := [(1, Int.ofNat 0, Int.ofNat 1000000), (2, Int.ofNat 0, Int.ofNat 1000000), (3, Int.ofNat 0, Int.ofNat 1000000), (4, Int.ofNat 0, Int.ofNat 1000000), (5, Int.ofNat 0, Int.ofNat 1000000), (6, Int.ofNat 0, Int.ofNat 1000000), (7, Int.ofNat 0, Int.ofNat 1000000), (8, Int.ofNat 0, Int.ofNat 1000000), (9, Int.ofNat 0, Int.ofNat 1000000), (10, Int.ofNat 0, Int.ofNat 1000000), (11, Int.ofNat 0, Int.ofNat 1000000), (12, Int.ofNat 0, Int.ofNat 1000000), (13, Int.ofNat 0, Int.ofNat 1000000), (14, Int.ofNat 0, Int.ofNat 1000000), (15, Int.ofNat 0, Int.ofNat 1000000), (16, Int.ofNat 0, Int.ofNat 1000000), (17, Int.ofNat 0, Int.ofNat 1000000), (18, Int.ofNat 0, Int.ofNat 1000000), (19, Int.ofNat 0, Int.ofNat 1000000), (20, Int.ofNat 0, Int.ofNat 1000000), (21, Int.ofNat 0, Int.ofNat 1000000), (22, Int.ofNat 0, Int.ofNat 1000000), (23, Int.ofNat 0, Int.ofNat 1000000), (24, Int.ofNat 0, Int.ofNat 1000000), (25, Int.ofNat 0, Int.ofNat 1000000), (26, Int.ofNat 0, Int.ofNat 1000000), (27, Int.ofNat 0, Int.ofNat 1000000), (28, Int.ofNat 0, Int.ofNat 1000000), (29, Int.ofNat 0, Int.ofNat 1000000), (30, Int.ofNat 0, Int.ofNat 1000000), (31, Int.ofNat 0, Int.ofNat 1000000), (32, Int.ofNat 0, Int.ofNat 1000000), (33, Int.ofNat 0, Int.ofNat 1000000), (34, Int.ofNat 0, Int.ofNat 1000000), (35, Int.ofNat 0, Int.ofNat 1000000), (36, Int.ofNat 0, Int.ofNat 1000000), (37, Int.ofNat 0, Int.ofNat 1000000), (38, Int.ofNat 0, Int.ofNat 1000000), (39, Int.ofNat 0, Int.ofNat 1000000), (40, Int.ofNat 0, Int.ofNat 1000000), (41, Int.ofNat 0, Int.ofNat 1000000), (42, Int.ofNat 0, Int.ofNat 1000000), (43, Int.ofNat 0, Int.ofNat 1000000), (44, Int.ofNat 0, Int.ofNat 1000000), (45, Int.ofNat 0, Int.ofNat 1000000), (46, Int.ofNat 0, Int.ofNat 1000000), (47, Int.ofNat 0, Int.ofNat 1000000), (48, Int.ofNat 0, Int.ofNat 1000000), (49, Int.ofNat 0, Int.ofNat 1000000), (50, Int.ofNat 0, Int.ofNat 1000000), (51, Int.ofNat 0, Int.ofNat 1000000), (52, Int.ofNat 0, Int.ofNat 1000000), (53, Int.ofNat 0, Int.ofNat 1000000), (54, Int.ofNat 0, Int.ofNat 1000000), (55, Int.ofNat 0, Int.ofNat 1000000), (56, Int.ofNat 0, Int.ofNat 1000000), (57, Int.ofNat 0, Int.ofNat 1000000), (58, Int.ofNat 0, Int.ofNat 1000000), (59, Int.ofNat 0, Int.ofNat 1000000), (60, Int.ofNat 0, Int.ofNat 1000000), (61, Int.ofNat 0, Int.ofNat 1000000), (62, Int.ofNat 0, Int.ofNat 1000000), (63, Int.ofNat 0, Int.ofNat 1000000), (64, Int.ofNat 0, Int.ofNat 1000000), (65, Int.ofNat 0, Int.ofNat 1000000), (66, Int.ofNat 0, Int.ofNat 1000000), (67, Int.ofNat 0, Int.ofNat 1000000), (68, Int.ofNat 0, Int.ofNat 1000000), (69, Int.ofNat 0, Int.ofNat 1000000), (70, Int.ofNat 0, Int.ofNat 1000000), (71, Int.ofNat 0, Int.ofNat 1000000), (72, Int.ofNat 0, Int.ofNat 1000000), (73, Int.ofNat 0, Int.ofNat 1000000), (74, Int.ofNat 0, Int.ofNat 1000000), (75, Int.ofNat 0, Int.ofNat 1000000), (76, Int.ofNat 0, Int.ofNat 1000000), (77, Int.ofNat 0, Int.ofNat 1000000), (78, Int.ofNat 0, Int.ofNat 1000000), (79, Int.ofNat 0, Int.ofNat 1000000), (80, Int.ofNat 0, Int.ofNat 1000000), (81, Int.ofNat 0, Int.ofNat 1000000), (82, Int.ofNat 0, Int.ofNat 1000000), (83, Int.ofNat 0, Int.ofNat 1000000), (84, Int.ofNat 0, Int.ofNat 1000000), (85, Int.ofNat 0, Int.ofNat 1000000), (86, Int.ofNat 0, Int.ofNat 1000000)]
def lv_s0 : VS := (1, 5, (tN tE (some (Int.ofNat 0, Int.ofNat 3075)) tE), [], (tN (tN (tN tE (some (9, 0)) tE) (some (1, 0)) tE) none (tN (tN tE (some (57, 2)) tE) (some (12, 0)) tE)), [(1, (Int.ofNat 0, []), (2, (Int.ofNat 0, []), 3)), (3, (Int.ofNat 2, []), (0, (Int.ofNat 0, []), 0)), (2, (Int.ofNat 1, []), (0, (Int.ofNat 0, []), 0)), (2, (Int.ofNat 31, []), (2, (Int.ofNat 0, []), 4)), (4, (Int.ofNat 0, []), (0, (Int.ofNat 0, []), 0)), (4, (Int.ofNat 1, []), (0, (Int.ofNat 0, []), 0))])
def lv_l0 : LV := [(0, (5, vx_c (Int.ofNat 0), 0)), (1, av_r 1), (2, av_r 2), (3, av_i (vx_c (Int.ofNat 3)))]
def lv_T : TT := [(113, ct_F_alter_0), (49, ct_F_close_0), (123, ct_F_count_0), (122, ct_F_feature_0), (114, ct_F_feed_0), (53, ct_F_give_0), (124, ct_F_got_0), (110, ct_F_hold_0), (48, ct_F_listen_0), (109, ct_F_lose_0), (121, ct_F_number_0), (119, ct_F_octet_0), (24, ct_F_open_0), (118, ct_F_packet_0), (116, ct_F_put_0), (111, ct_F_repeat_0), (127, ct_F_seen_0), (128, ct_F_sent_0), (120, ct_F_state_0), (63, ct_F_tick_0), (57, ct_F_want_0), (117, ct_F_way_0), (198, ct_M_alter_0), (155, ct_M_close_0), (207, ct_M_count_0), (206, ct_M_feature_0), (199, ct_M_feed_0), (158, ct_M_give_0), (208, ct_M_got_0), (196, ct_M_hold_0), (154, ct_M_listen_0), (194, ct_M_lose_0), (205, ct_M_number_0), (203, ct_M_octet_0), (134, ct_M_open_0), (202, ct_M_packet_0), (200, ct_M_put_0), (197, ct_M_repeat_0), (209, ct_M_seen_0), (210, ct_M_sent_0), (204, ct_M_state_0), (163, ct_M_tick_0), (159, ct_M_want_0), (201, ct_M_way_0)]
def lv_U : UT := [((0, 52), [([0, 1, 2], [(3, Int.ofNat 3, Int.ofNat 3081)], [(1, some 0, 0, 0, Int.ofNat 2, some (Int.ofNat 0), Int.ofNat 27702), (2, none, 0, 0, Int.ofNat 1, some (Int.ofNat 0), Int.ofNat 27702), (2, some 31, 0, 0, Int.ofNat 0, some (Int.ofNat 0), Int.ofNat 1539000), (2, some 31, 0, 0, Int.ofNat 1, some (Int.ofNat 0), Int.ofNat 1539000)], [(Int.ofNat 0, [((0, 1), Int.ofNat 1), ((0, 2), Int.negSucc 0)]), (Int.ofNat 0, [((0, 1), Int.negSucc 0), ((0, 2), Int.ofNat 1)]), (Int.negSucc 26, [((0, 0), Int.ofNat 9), ((0, 2), Int.negSucc 0)]), (Int.negSucc 1499, [((0, 0), Int.ofNat 500), ((0, 3), Int.negSucc 0)]), (Int.negSucc 1499, [((0, 0), Int.ofNat 500), ((0, 4), Int.negSucc 0)])], (Int.ofNat 3081, [((0, 0), Int.negSucc 0)]), [(1, Int.ofNat 3, Int.ofNat 3), (2, Int.ofNat 4, Int.ofNat 4), (3, Int.ofNat 1, Int.ofNat 1), (4, Int.ofNat 1, Int.ofNat 1), (5, Int.ofNat 3, Int.ofNat 3), (5, Int.ofNat 4, Int.ofNat 4), (6, Int.ofNat 8, Int.ofNat 8), (6, Int.ofNat 9, Int.ofNat 9), (6, Int.ofNat 10, Int.ofNat 10), (6, Int.ofNat 11, Int.ofNat 11), (6, Int.ofNat 12, Int.ofNat 12), (6, Int.ofNat 13, Int.ofNat 13), (6, Int.ofNat 14, Int.ofNat 14), (6, Int.ofNat 15, Int.ofNat 15), (6, Int.ofNat 16, Int.ofNat 16), (6, Int.ofNat 17, Int.ofNat 17), (7, Int.ofNat 2, Int.ofNat 2), (7, Int.ofNat 3, Int.ofNat 3), (7, Int.ofNat 4, Int.ofNat 4), (7, Int.ofNat 5, Int.ofNat 5), (7, Int.ofNat 6, Int.ofNat 6), (8, Int.ofNat 1, Int.ofNat 1), (8, Int.ofNat 2, Int.ofNat 2), (8, Int.ofNat 3, Int.ofNat 3), (8, Int.ofNat 4, Int.ofNat 4), (8, Int.ofNat 5, Int.ofNat 5), (8, Int.ofNat 6, Int.ofNat 6), (8, Int.ofNat 7, Int.ofNat 7), (9, Int.ofNat 2, Int.ofNat 2), (9, Int.ofNat 3, Int.ofNat 3), (9, Int.ofNat 4, Int.ofNat 4), (9, Int.ofNat 5, Int.ofNat 5), (10, Int.ofNat 1, Int.ofNat 1), (10, Int.ofNat 2, Int.ofNat 2), (10, Int.ofNat 3, Int.ofNat 3), (11, Int.ofNat 0, Int.ofNat 0), (11, Int.ofNat 1, Int.ofNat 1), (11, Int.ofNat 2, Int.ofNat 2), (11, Int.ofNat 3, Int.ofNat 3), (12, Int.ofNat 1, Int.ofNat 1), (12, Int.ofNat 2, Int.ofNat 2), (12, Int.ofNat 8, Int.ofNat 8), (12, Int.ofNat 57, Int.ofNat 57), (12, Int.ofNat 59, Int.ofNat 59), (12, Int.ofNat 60, Int.ofNat 60), (12, Int.ofNat 63, Int.ofNat 63), (18, Int.ofNat 0, Int.ofNat 219), (20, Int.ofNat 0, Int.ofNat 2), (21, Int.ofNat 0, Int.ofNat 83), (22, Int.ofNat 0, Int.ofNat 799), (22, Int.ofNat 0, Int.ofNat 1599), (23, Int.ofNat 0, Int.ofNat 19), (23, Int.ofNat 0, Int.ofNat 39), (24, Int.ofNat 0, Int.ofNat 0), (24, Int.ofNat 0, Int.ofNat 4), (25, Int.ofNat 0, Int.ofNat 255), (26, Int.ofNat 0, Int.ofNat 59), (27, Int.ofNat 0, Int.ofNat 219), (28, Int.ofNat 0, Int.ofNat 255), (29, Int.ofNat 0, Int.ofNat 4095), (30, Int.ofNat 0, Int.ofNat 58), (30, Int.ofNat 0, Int.ofNat 59), (30, Int.ofNat 1, Int.ofNat 59), (31, Int.ofNat 0, Int.ofNat 58), (31, Int.ofNat 0, Int.ofNat 59), (31, Int.ofNat 1, Int.ofNat 59), (32, Int.ofNat 0, Int.ofNat 58), (32, Int.ofNat 0, Int.ofNat 59), (32, Int.ofNat 1, Int.ofNat 59), (33, Int.ofNat 0, Int.ofNat 15103), (33, Int.ofNat 0, Int.ofNat 15239), (33, Int.ofNat 0, Int.ofNat 15280), (33, Int.ofNat 0, Int.ofNat 15323), (33, Int.ofNat 0, Int.ofNat 15359), (33, Int.ofNat 256, Int.ofNat 15359), (34, Int.ofNat 0, Int.ofNat 219), (35, Int.ofNat 0, Int.ofNat 0), (35, Int.ofNat 0, Int.ofNat 1), (35, Int.ofNat 1, Int.ofNat 1), (36, Int.ofNat 0, Int.ofNat 0), (36, Int.ofNat 0, Int.ofNat 1), (37, Int.ofNat 0, Int.ofNat 0), (37, Int.ofNat 1, Int.ofNat 1), (38, Int.ofNat 0, Int.ofNat 0), (38, Int.ofNat 0, Int.ofNat 1), (38, Int.ofNat 1, Int.ofNat 1), (39, Int.ofNat 0, Int.ofNat 0), (39, Int.ofNat 0, Int.ofNat 1), (39, Int.ofNat 1, Int.ofNat 1), (40, Int.ofNat 0, Int.ofNat 0), (40, Int.ofNat 0, Int.ofNat 1), (40, Int.ofNat 1, Int.ofNat 1), (41, Int.ofNat 0, Int.ofNat 0), (41, Int.ofNat 0, Int.ofNat 1), (41, Int.ofNat 1, Int.ofNat 1), (42, Int.ofNat 0, Int.ofNat 255), (42, Int.ofNat 0, Int.ofNat 511), (43, Int.ofNat 0, Int.ofNat 255), (43, Int.ofNat 0, Int.ofNat 511), (44, Int.ofNat 0, Int.ofNat 255), (44, Int.ofNat 0, Int.ofNat 511), (45, Int.ofNat 0, Int.ofNat 511), (46, Int.ofNat 1, Int.ofNat 9), (46, Int.ofNat 1, Int.ofNat 19), (46, Int.ofNat 11, Int.ofNat 19), (47, Int.ofNat 1, Int.ofNat 9), (47, Int.ofNat 1, Int.ofNat 19), (47, Int.ofNat 11, Int.ofNat 19), (48, Int.ofNat 3, Int.ofNat 28), (48, Int.ofNat 3, Int.ofNat 59), (48, Int.ofNat 33, Int.ofNat 58), (49, Int.ofNat 1, Int.ofNat 9), (49, Int.ofNat 1, Int.ofNat 19), (49, Int.ofNat 11, Int.ofNat 19), (50, Int.ofNat 1, Int.ofNat 9), (50, Int.ofNat 1, Int.ofNat 19), (50, Int.ofNat 11, Int.ofNat 19), (51, Int.ofNat 1, Int.ofNat 19), (52, Int.ofNat 0, Int.ofNat 0), (52, Int.ofNat 0, Int.ofNat 1), (52, Int.ofNat 1, Int.ofNat 1), (53, Int.ofNat 0, Int.ofNat 95), (53, Int.ofNat 0, Int.ofNat 191), (54, Int.ofNat 0, Int.ofNat 0), (54, Int.ofNat 0, Int.ofNat 1), (54, Int.ofNat 1, Int.ofNat 1), (55, Int.ofNat 0, Int.ofNat 38), (55, Int.ofNat 0, Int.ofNat 39), (56, Int.ofNat 0, Int.ofNat 1559), (56, Int.ofNat 0, Int.ofNat 1599), (57, Int.ofNat 0, Int.ofNat 1), (58, Int.ofNat 0, Int.ofNat 79), (59, Int.ofNat 0, Int.ofNat 3405), (60, Int.ofNat 0, Int.ofNat 0), (60, Int.ofNat 0, Int.ofNat 1), (60, Int.ofNat 1, Int.ofNat 1), (61, Int.ofNat 0, Int.ofNat 0), (61, Int.ofNat 0, Int.ofNat 1), (61, Int.ofNat 1, Int.ofNat 1), (62, Int.ofNat 0, Int.ofNat 0), (62, Int.ofNat 0, Int.ofNat 1), (62, Int.ofNat 1, Int.ofNat 1), (63, Int.ofNat 0, Int.ofNat 0), (63, Int.ofNat 0, Int.ofNat 1), (63, Int.ofNat 1, Int.ofNat 1), (64, Int.ofNat 0, Int.ofNat 0), (64, Int.ofNat 0, Int.ofNat 1), (64, Int.ofNat 1, Int.ofNat 1), (65, Int.ofNat 0, Int.ofNat 1), (66, Int.ofNat 0, Int.ofNat 0), (66, Int.ofNat 0, Int.ofNat 1), (66, Int.ofNat 1, Int.ofNat 1), (67, Int.ofNat 0, Int.ofNat 0), (67, Int.ofNat 0, Int.ofNat 1), (67, Int.ofNat 1, Int.ofNat 1), (68, Int.ofNat 0, Int.ofNat 0), (68, Int.ofNat 0, Int.ofNat 1), (68, Int.ofNat 1, Int.ofNat 1), (69, Int.ofNat 0, Int.ofNat 0), (69, Int.ofNat 0, Int.ofNat 1), (69, Int.ofNat 1, Int.ofNat 1), (70, Int.ofNat 0, Int.ofNat 0), (70, Int.ofNat 0, Int.ofNat 1), (70, Int.ofNat 1, Int.ofNat 1), (71, Int.ofNat 0, Int.ofNat 0), (71, Int.ofNat 0, Int.ofNat 1), (71, Int.ofNat 1, Int.ofNat 1), (72, Int.ofNat 0, Int.ofNat 0), (72, Int.ofNat 0, Int.ofNat 1), (72, Int.ofNat 1, Int.ofNat 1), (73, Int.ofNat 0, Int.ofNat 1), (74, Int.ofNat 0, Int.ofNat 0), (74, Int.ofNat 0, Int.ofNat 1), (74, Int.ofNat 1, Int.ofNat 1), (75, Int.ofNat 0, Int.ofNat 0), (75, Int.ofNat 0, Int.ofNat 1), (76, Int.ofNat 0, Int.ofNat 1), (77, Int.ofNat 0, Int.ofNat 1), (78, Int.ofNat 0, Int.ofNat 1), (79, Int.ofNat 0, Int.ofNat 1), (80, Int.ofNat 0, Int.ofNat 1), (81, Int.ofNat 0, Int.ofNat 1), (82, Int.ofNat 0, Int.ofNat 2), (83, Int.ofNat 0, Int.ofNat 255), (84, Int.ofNat 0, Int.ofNat 39), (85, Int.ofNat 0, Int.ofNat 255), (86, Int.ofNat 0, Int.ofNat 255)])])]
def lv_out : Option (List OU) := vx axC lv_T lv_U [] lv_md 5000 [] 0 mr_L_law 52 0 lv_s0 lv_l0 []
def lv_one (o : Option (List OU)) : Bool := match o with
  | none => false
  | some l => l.all (fun q => match q.2 with
    | some a => vx_is0 a && vx_eq a.2.1 (vx_c (Int.ofNat 1))
    | none => false)
theorem lv_run : lv_one lv_out = true := by decide +kernel
theorem lv_Tok {D : ft_G} {κ : Nat → Nat × Nat} {n : Nat} : ∀ q ∈ lv_T, CV D κ n q.1 q.2 := (vx_T1 c_F_alter_0 (vx_T1 c_F_close_0 (vx_T1 c_F_count_0 (vx_T1 c_F_feature_0 (vx_T1 c_F_feed_0 (vx_T1 c_F_give_0 (vx_T1 c_F_got_0 (vx_T1 c_F_hold_0 (vx_T1 c_F_listen_0 (vx_T1 c_F_lose_0 (vx_T1 c_F_number_0 (vx_T1 c_F_octet_0 (vx_T1 c_F_open_0 (vx_T1 c_F_packet_0 (vx_T1 c_F_put_0 (vx_T1 c_F_repeat_0 (vx_T1 c_F_seen_0 (vx_T1 c_F_sent_0 (vx_T1 c_F_state_0 (vx_T1 c_F_tick_0 (vx_T1 c_F_want_0 (vx_T1 c_F_way_0 (vx_T1 c_M_alter_0 (vx_T1 c_M_close_0 (vx_T1 c_M_count_0 (vx_T1 c_M_feature_0 (vx_T1 c_M_feed_0 (vx_T1 c_M_give_0 (vx_T1 c_M_got_0 (vx_T1 c_M_hold_0 (vx_T1 c_M_listen_0 (vx_T1 c_M_lose_0 (vx_T1 c_M_number_0 (vx_T1 c_M_octet_0 (vx_T1 c_M_open_0 (vx_T1 c_M_packet_0 (vx_T1 c_M_put_0 (vx_T1 c_M_repeat_0 (vx_T1 c_M_seen_0 (vx_T1 c_M_sent_0 (vx_T1 c_M_state_0 (vx_T1 c_M_tick_0 (vx_T1 c_M_want_0 (vx_T1 c_M_way_0 vx_T0))))))))))))))))))))))))))))))))))))))))))))
section LVV
variable {D : ft_G} {h0 : ft_H}
theorem lv_loop {κ : Nat → Nat × Nat} {n : Nat} {h : ft_H} {ρ : Nat → Int} {τ : Nat → Nat} (I : vx_I D κ n h) (V : VOk D κ h ρ τ lv_s0) (hlen : ρ 0 = ((D.2.2.2.2.2.2.1 : Nat) : Int)) (hb : D.2.2.2.2.2.2.1 < 2147483648) : sm D 0 52 (vx_dL D ρ τ lv_l0) [] h 273 54730 (fun v _ => v = some (.int (nI 1))) := by
  have e := lv_run
  unfold lv_one at e
  split at e
  · cases e
  · rename_i l hl
    refine vx_ok (D := D) (κ := κ) (n := n) (md := lv_md) (h0 := h) axC_ok lv_Tok (U := lv_U) (Hn := []) 5000 [] 0 mr_L_law 52 0 lv_s0 lv_l0 [] l hl mo_L_law 273 54730 ρ τ h _ ⟨Nat.le_of_ble_eq_true rfl, Nat.le_of_ble_eq_true rfl⟩ ?_ ⟨V, I, vx_fr.refl, ?_, fun v hv => (by cases hv), fun _ => ⟨Nat.one_pos, hlen, hb⟩⟩ (fun L hL => by cases hL)
    · rintro v h' ⟨q, m, ρ', τ', -, -, -, -, -, hv, -, -, -⟩
      have q2 := List.all_eq_true.mp e q m
      split at q2
      · rename_i a ha
        rw [Bool.and_eq_true] at q2
        rw [hv, ha]
        show some (vx_d D ρ' τ' a) = _
        rw [vx_d0 (Nat.eq_of_beq_eq_true q2.1), vx_eq_ok q2.2, vx_c_ev]
        rfl
      · cases q2
    · intro q hq
      have : vx_altB 1 5 q.2 = true := List.all_eq_true.mp (show lv_l0.all (fun q => vx_altB 1 5 q.2) = true by decide) q hq
      exact vx_altB_ok this
theorem hp_at {ρ : Nat → Int32} {σ : Nat → Int64} {o k : Nat} {a : AE} (e : (match tG hp3.2 o with
    | some c => aB (cA c k) a
    | none => false) = true) : (hD D ρ σ h0 hp3).1 (ft_B D + o) k = aD D ρ σ a := by
  split at e
  · rename_i c hc
    rw [hD_V hc, aB_ok e]
  · cases e
theorem hp_kd {ρ : Nat → Int32} {σ : Nat → Int64} {o c m : Nat} (e : (match tG hp3.2 o with
    | some x => Nat.beq x.1 c && Nat.beq x.2.1 m
    | none => false) = true) : (hD D ρ σ h0 hp3).2.1 (ft_B D + o) = (c, m) := by
  split at e
  · rename_i x hx
    rw [Bool.and_eq_true] at e
    rw [hD_K hx]
    exact Prod.ext (Nat.eq_of_beq_eq_true e.1) (Nat.eq_of_beq_eq_true e.2)
  · cases e
def lv_off (r : Nat) : Nat := if r = 2 then 215 else if r = 3 then 3 else if r = 4 then 243 else 0
set_option maxRecDepth 100000 in
/-- THE LAW, from its entry: it returns true -/
theorem law_all (hL : dLen D ≤ 3075) (hn : h0.2.2 = ft_B D) (hk : ∀ a, h0.2.1 a = (0, 0)) : sm D 0 0 [(0, .ref D.2.2.2.2.2.1)] [] h0 0 0 (fun v _ => v = some (.int (nI 1))) := by
  refine law_pre hL hn ?_
  have I := iv_ok (D := D) (ρ := rh D) (σ := sg) (h0 := h0) iv_hp3 hk
  have hlen : dLen D < 2147483648 := by omega
  have V : VOk D (hD D (rh D) sg h0 hp3).2.1 (hD D (rh D) sg h0 hp3) (fun _ => ((dLen D : Nat) : Int)) (fun r => ft_B D + lv_off r) lv_s0 := by
    refine ⟨fun i b hi hb => ?_, fun f hf => (by cases hf), fun r k hr => ?_, fun e he => ?_, (show 1 + 1 < 4096 by decide), (show 5 + 1 < 4096 by decide)⟩
    · have hi' : i = 0 := by have : i < 1 := hi; omega
      subst hi'
      have hb' : some (Int.ofNat 0, Int.ofNat 3075) = some b := hb
      cases hb'
      show (0 : Int) ≤ ((dLen D : Nat) : Int) ∧ ((dLen D : Nat) : Int) ≤ 3075
      omega
    · have hm := tL_ok hr
      have hall : ∀ q ∈ tL (vs_K lv_s0), q.1 < 5 ∧ (match tG hp3.2 (lv_off q.1) with
          | some x => Nat.beq x.1 q.2.1 && Nat.beq x.2.1 q.2.2
          | none => false) = true := by decide +kernel
      obtain ⟨a1, a2⟩ := hall _ hm
      refine ⟨a1, ?_⟩
      have := hp_kd (D := D) (h0 := h0) (ρ := rh D) (σ := sg) a2
      exact this
    · have hs : ∀ (r k : Nat) (v : AV) (a : AE), (r, vx_c (Int.ofNat k), v) ∈ vs_M lv_s0 → 0 < r → r < 5 → k < 1000 → vx_alt 1 5 v → (match tG hp3.2 (lv_off r) with
          | some c => aB (cA c k) a
          | none => false) = true → aD D (rh D) sg a = vx_d D (fun _ => ((dLen D : Nat) : Int)) (fun r => ft_B D + lv_off r) v → vx_lt 1 (vx_c (Int.ofNat k)) ∧ vx_alt 1 5 v ∧ r < 5 ∧ vx_mok D (hD D (rh D) sg h0 hp3) (fun _ => ((dLen D : Nat) : Int)) (fun r => ft_B D + lv_off r) (r, vx_c (Int.ofNat k), v) := fun r k v a _ h0r h5 hk9 hv e1 e2 => by
        refine ⟨vx_c_lt, hv, h5, ?_, ?_⟩
        · show 0 ≤ vx_ev _ (vx_c (Int.ofNat k))
          rw [vx_c_ev]; exact Int.natCast_nonneg k
        · show (if r = 0 then _ else vx_look _ (ft_B D + lv_off r) (vx_ev _ (vx_c (Int.ofNat k))) = _)
          rw [if_neg (by omega), vx_c_ev, vx_look_lo (by show ((k : Nat) : Int) < 1000000; omega)]
          show (hD D (rh D) sg h0 hp3).1 (ft_B D + lv_off r) k = _
          rw [hp_at e1, e2]
      have hall := he
      simp only [lv_s0, vs_M, List.mem_cons, List.not_mem_nil, or_false] at hall
      rcases hall with w | w | w | w | w | w
      · rw [w]; exact hs 1 0 (2, vx_c (Int.ofNat 0), 3) (kR 3) (by rw [← w]; exact he) (by decide) (by decide) (by decide) (vx_altB_ok (by decide)) (by decide +kernel) rfl
      · rw [w]; exact hs 3 2 (0, vx_c (Int.ofNat 0), 0) (kI 0) (by rw [← w]; exact he) (by decide) (by decide) (by decide) (vx_altB_ok (by decide)) (by decide +kernel) rfl
      · rw [w]; exact hs 2 1 (0, vx_c (Int.ofNat 0), 0) (kI 0) (by rw [← w]; exact he) (by decide) (by decide) (by decide) (vx_altB_ok (by decide)) (by decide +kernel) rfl
      · rw [w]; exact hs 2 31 (2, vx_c (Int.ofNat 0), 4) (kR 243) (by rw [← w]; exact he) (by decide) (by decide) (by decide) (vx_altB_ok (by decide)) (by decide +kernel) rfl
      · rw [w]; exact hs 4 0 (0, vx_c (Int.ofNat 0), 0) (kI 0) (by rw [← w]; exact he) (by decide) (by decide) (by decide) (vx_altB_ok (by decide)) (by decide +kernel) rfl
      · rw [w]; exact hs 4 1 (0, vx_c (Int.ofNat 0), 0) (kI 0) (by rw [← w]; exact he) (by decide) (by decide) (by decide) (vx_altB_ok (by decide)) (by decide +kernel) rfl
  refine sm_weak (fun q hq => ?_) (lv_loop I V rfl hlen)
  have e1 : vx_dL D (fun _ => ((dLen D : Nat) : Int)) (fun r => ft_B D + lv_off r) lv_l0 = [(0, .ref D.2.2.2.2.2.1), (1, .ref (ft_B D)), (2, .ref (ft_B D + 215)), (3, .int (nI 3))] := rfl
  rw [e1] at hq
  simp only [List.mem_cons, List.not_mem_nil, or_false] at hq ⊢
  rcases hq with w | w | w | w
  · exact Or.inr (Or.inr (Or.inr w))
  · exact Or.inr (Or.inr (Or.inl w))
  · exact Or.inr (Or.inl w)
  · exact Or.inl w
end LVV
