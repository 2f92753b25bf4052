set_option maxHeartbeats 4000000 in
theorem cx_i6 (E : xa_EV) {L : List Nat} {T : xa_AH} {R : xa_AR} {h : Nat} (hm : (ci h 1) ∈ L) (h0 : ∀ k, R (ci h 1) k = none) (hcl : ∀ b k x, R b k = some x → x ∈ L) (hnew : ∀ r, 2 ≤ r → r ≤ 5 → ¬ ci h r ∈ L) : xa_CtA E mX6_init [.ref (ci h 1)] L T R (PN cnr [(ci h 2), (ci h 3), (ci h 4), (ci h 5)] [0, 1, 2, 3] (ci h 1) L T R) := by
  refine xa_CtA.of [some (.ref (ci h 1))] rfl (Nat.le_of_ble_eq_true rfl) (by simp [Value.category]) rfl ?_
  have acc := acc_0 (c := cnr) (T := T) h0 hcl
  refine xa_aload_n (pc := 0) dX6_init_0 rfl ?_
  refine xa_objInit (pc := 1) dX6_init_1 loX6_3 lo_im lo_cd (by decide) (by decide) ?_
  refine xa_aload_n (pc := 4) dX6_init_4 rfl ?_
  refine xa_bipush (pc := 5) (v := 32) dX6_init_5 (by decide) ?_
  refine xa_newI (pc := 7) (ci h 2) 32 dX6_init_7 (by decide) (by decide) (ci_kd h 2 (by decide)) (ci_ln h 2 (by decide)) (by decide) (acc_n acc (hnew 2 (by decide) (by decide)) (by simp [ci])) (hnew 2 (by decide) (by decide)) (by simp [ci]) (by simp [ci]) (acc_fr acc (hnew 2 (by decide) (by decide)) (by simp [ci])) (by decide) (by decide) ?_
  refine xa_putRF (pc := 9) (some (ci h 2)) 6 0 lpX6_9 dX6_init_9 rfl (List.mem_append_left _ (acc_m acc hm)) (kd_1 _) rfl (fun _ => by cases ‹Option Nat› <;> rfl) (fun _ => by cases ‹Option Nat› <;> rfl) ?_
  replace acc := acc_arr (a := (ci h 2)) (f := 0) acc (by simp [ci]) (by simp [ci]) (by rw [cnr_ci (by decide)]; rfl) (fun k => cnr_no [] (by decide) (by decide) List.not_mem_nil)
  generalize L ++ [(ci h 2)] = L1 at acc ⊢
  generalize xa_zi T (ci h 2) = T1 at acc ⊢
  generalize xa_upr (xa_zr R (ci h 2)) (ci h 1) 0 (some (ci h 2)) = R1 at acc ⊢
  refine xa_aload_n (pc := 12) dX6_init_12 rfl ?_
  refine xa_bipush (pc := 13) (v := 32) dX6_init_13 (by decide) ?_
  refine xa_newI (pc := 15) (ci h 3) 32 dX6_init_15 (by decide) (by decide) (ci_kd h 3 (by decide)) (ci_ln h 3 (by decide)) (by decide) (acc_n acc (hnew 3 (by decide) (by decide)) (by simp [ci])) (hnew 3 (by decide) (by decide)) (by simp [ci]) (by simp [ci]) (acc_fr acc (hnew 3 (by decide) (by decide)) (by simp [ci])) (by decide) (by decide) ?_
  refine xa_putRF (pc := 17) (some (ci h 3)) 6 1 lpX6_15 dX6_init_17 rfl (List.mem_append_left _ (acc_m acc hm)) (kd_1 _) rfl (fun _ => by cases ‹Option Nat› <;> rfl) (fun _ => by cases ‹Option Nat› <;> rfl) ?_
  replace acc := acc_arr (a := (ci h 3)) (f := 1) acc (by simp [ci]) (by simp [ci]) (by rw [cnr_ci (by decide)]; rfl) (fun k => cnr_no [] (by decide) (by decide) List.not_mem_nil)
  generalize L1 ++ [(ci h 3)] = L2 at acc ⊢
  generalize xa_zi T1 (ci h 3) = T2 at acc ⊢
  generalize xa_upr (xa_zr R1 (ci h 3)) (ci h 1) 1 (some (ci h 3)) = R2 at acc ⊢
  refine xa_aload_n (pc := 20) dX6_init_20 rfl ?_
  refine xa_bipush (pc := 21) (v := 32) dX6_init_21 (by decide) ?_
  refine xa_newI (pc := 23) (ci h 4) 32 dX6_init_23 (by decide) (by decide) (ci_kd h 4 (by decide)) (ci_ln h 4 (by decide)) (by decide) (acc_n acc (hnew 4 (by decide) (by decide)) (by simp [ci])) (hnew 4 (by decide) (by decide)) (by simp [ci]) (by simp [ci]) (acc_fr acc (hnew 4 (by decide) (by decide)) (by simp [ci])) (by decide) (by decide) ?_
  refine xa_putRF (pc := 25) (some (ci h 4)) 6 2 lpX6_18 dX6_init_25 rfl (List.mem_append_left _ (acc_m acc hm)) (kd_1 _) rfl (fun _ => by cases ‹Option Nat› <;> rfl) (fun _ => by cases ‹Option Nat› <;> rfl) ?_
  replace acc := acc_arr (a := (ci h 4)) (f := 2) acc (by simp [ci]) (by simp [ci]) (by rw [cnr_ci (by decide)]; rfl) (fun k => cnr_no [] (by decide) (by decide) List.not_mem_nil)
  generalize L2 ++ [(ci h 4)] = L3 at acc ⊢
  generalize xa_zi T2 (ci h 4) = T3 at acc ⊢
  generalize xa_upr (xa_zr R2 (ci h 4)) (ci h 1) 2 (some (ci h 4)) = R3 at acc ⊢
  refine xa_aload_n (pc := 28) dX6_init_28 rfl ?_
  refine xa_bipush (pc := 29) (v := 32) dX6_init_29 (by decide) ?_
  refine xa_newI (pc := 31) (ci h 5) 32 dX6_init_31 (by decide) (by decide) (ci_kd h 5 (by decide)) (ci_ln h 5 (by decide)) (by decide) (acc_n acc (hnew 5 (by decide) (by decide)) (by simp [ci])) (hnew 5 (by decide) (by decide)) (by simp [ci]) (by simp [ci]) (acc_fr acc (hnew 5 (by decide) (by decide)) (by simp [ci])) (by decide) (by decide) ?_
  refine xa_putRF (pc := 33) (some (ci h 5)) 6 3 lpX6_21 dX6_init_33 rfl (List.mem_append_left _ (acc_m acc hm)) (kd_1 _) rfl (fun _ => by cases ‹Option Nat› <;> rfl) (fun _ => by cases ‹Option Nat› <;> rfl) ?_
  replace acc := acc_arr (a := (ci h 5)) (f := 3) acc (by simp [ci]) (by simp [ci]) (by rw [cnr_ci (by decide)]; rfl) (fun k => cnr_no [] (by decide) (by decide) List.not_mem_nil)
  generalize L3 ++ [(ci h 5)] = L4 at acc ⊢
  generalize xa_zi T3 (ci h 5) = T4 at acc ⊢
  generalize xa_upr (xa_zr R3 (ci h 5)) (ci h 1) 3 (some (ci h 5)) = R4 at acc ⊢
  exact xa_vretA (pc := 36) dX6_init_36 rfl ⟨rfl, acc⟩
set_option maxHeartbeats 4000000 in
theorem cx_i1 (E : xa_EV) {L : List Nat} {T : xa_AH} {R : xa_AR} {h : Nat} (hm : (ci h 6) ∈ L) (h0 : ∀ k, R (ci h 6) k = none) (hcl : ∀ b k x, R b k = some x → x ∈ L) (hnew : ∀ r, 7 ≤ r → r ≤ 8 → ¬ ci h r ∈ L) : xa_CtA E mX1_init [.ref (ci h 6)] L T R (PN cnr [(ci h 7), (ci h 8)] [0, 1] (ci h 6) L T R) := by
  refine xa_CtA.of [some (.ref (ci h 6))] rfl (Nat.le_of_ble_eq_true rfl) (by simp [Value.category]) rfl ?_
  have acc := acc_0 (c := cnr) (T := T) h0 hcl
  refine xa_aload_n (pc := 0) dX1_init_0 rfl ?_
  refine xa_objInit (pc := 1) dX1_init_1 loX1_3 lo_im lo_cd (by decide) (by decide) ?_
  refine xa_aload_n (pc := 4) dX1_init_4 rfl ?_
  refine xa_bipush (pc := 5) (v := 16) dX1_init_5 (by decide) ?_
  refine xa_newI (pc := 7) (ci h 7) 16 dX1_init_7 (by decide) (by decide) (ci_kd h 7 (by decide)) (ci_ln h 7 (by decide)) (by decide) (acc_n acc (hnew 7 (by decide) (by decide)) (by simp [ci])) (hnew 7 (by decide) (by decide)) (by simp [ci]) (by simp [ci]) (acc_fr acc (hnew 7 (by decide) (by decide)) (by simp [ci])) (by decide) (by decide) ?_
  refine xa_putRF (pc := 9) (some (ci h 7)) 1 0 lpX1_9 dX1_init_9 rfl (List.mem_append_left _ (acc_m acc hm)) (kd_6 _) rfl (fun _ => by cases ‹Option Nat› <;> rfl) (fun _ => by cases ‹Option Nat› <;> rfl) ?_
  replace acc := acc_arr (a := (ci h 7)) (f := 0) acc (by simp [ci]) (by simp [ci]) (by rw [cnr_ci (by decide)]; rfl) (fun k => cnr_no [] (by decide) (by decide) List.not_mem_nil)
  generalize L ++ [(ci h 7)] = L1 at acc ⊢
  generalize xa_zi T (ci h 7) = T1 at acc ⊢
  generalize xa_upr (xa_zr R (ci h 7)) (ci h 6) 0 (some (ci h 7)) = R1 at acc ⊢
  refine xa_aload_n (pc := 12) dX1_init_12 rfl ?_
  refine xa_bipush (pc := 13) (v := 16) dX1_init_13 (by decide) ?_
  refine xa_newI (pc := 15) (ci h 8) 16 dX1_init_15 (by decide) (by decide) (ci_kd h 8 (by decide)) (ci_ln h 8 (by decide)) (by decide) (acc_n acc (hnew 8 (by decide) (by decide)) (by simp [ci])) (hnew 8 (by decide) (by decide)) (by simp [ci]) (by simp [ci]) (acc_fr acc (hnew 8 (by decide) (by decide)) (by simp [ci])) (by decide) (by decide) ?_
  refine xa_putRF (pc := 17) (some (ci h 8)) 1 1 lpX1_15 dX1_init_17 rfl (List.mem_append_left _ (acc_m acc hm)) (kd_6 _) rfl (fun _ => by cases ‹Option Nat› <;> rfl) (fun _ => by cases ‹Option Nat› <;> rfl) ?_
  replace acc := acc_arr (a := (ci h 8)) (f := 1) acc (by simp [ci]) (by simp [ci]) (by rw [cnr_ci (by decide)]; rfl) (fun k => cnr_no [] (by decide) (by decide) List.not_mem_nil)
  generalize L1 ++ [(ci h 8)] = L2 at acc ⊢
  generalize xa_zi T1 (ci h 8) = T2 at acc ⊢
  generalize xa_upr (xa_zr R1 (ci h 8)) (ci h 6) 1 (some (ci h 8)) = R2 at acc ⊢
  exact xa_vretA (pc := 20) dX1_init_20 rfl ⟨rfl, acc⟩
set_option maxHeartbeats 4000000 in
theorem cx_i0 (E : xa_EV) {L : List Nat} {T : xa_AH} {R : xa_AR} {h : Nat} (hm : (ci h 9) ∈ L) (h0 : ∀ k, R (ci h 9) k = none) (hcl : ∀ b k x, R b k = some x → x ∈ L) (hnew : ∀ r, 10 ≤ r → r ≤ 10 → ¬ ci h r ∈ L) : xa_CtA E mX0_init [.ref (ci h 9)] L T R (PN cnr [(ci h 10)] [0] (ci h 9) L T R) := by
  refine xa_CtA.of [some (.ref (ci h 9))] rfl (Nat.le_of_ble_eq_true rfl) (by simp [Value.category]) rfl ?_
  have acc := acc_0 (c := cnr) (T := T) h0 hcl
  refine xa_aload_n (pc := 0) dX0_init_0 rfl ?_
  refine xa_objInit (pc := 1) dX0_init_1 loX0_3 lo_im lo_cd (by decide) (by decide) ?_
  refine xa_aload_n (pc := 4) dX0_init_4 rfl ?_
  refine xa_bipush (pc := 5) (v := 32) dX0_init_5 (by decide) ?_
  refine xa_newI (pc := 7) (ci h 10) 32 dX0_init_7 (by decide) (by decide) (ci_kd h 10 (by decide)) (ci_ln h 10 (by decide)) (by decide) (acc_n acc (hnew 10 (by decide) (by decide)) (by simp [ci])) (hnew 10 (by decide) (by decide)) (by simp [ci]) (by simp [ci]) (acc_fr acc (hnew 10 (by decide) (by decide)) (by simp [ci])) (by decide) (by decide) ?_
  refine xa_putRF (pc := 9) (some (ci h 10)) 0 0 lpX0_9 dX0_init_9 rfl (List.mem_append_left _ (acc_m acc hm)) (kd_9 _) rfl (fun _ => by cases ‹Option Nat› <;> rfl) (fun _ => by cases ‹Option Nat› <;> rfl) ?_
  replace acc := acc_arr (a := (ci h 10)) (f := 0) acc (by simp [ci]) (by simp [ci]) (by rw [cnr_ci (by decide)]; rfl) (fun k => cnr_no [] (by decide) (by decide) List.not_mem_nil)
  generalize L ++ [(ci h 10)] = L1 at acc ⊢
  generalize xa_zi T (ci h 10) = T1 at acc ⊢
  generalize xa_upr (xa_zr R (ci h 10)) (ci h 9) 0 (some (ci h 10)) = R1 at acc ⊢
  exact xa_vretA (pc := 12) dX0_init_12 rfl ⟨rfl, acc⟩
set_option maxHeartbeats 4000000 in
theorem cx_i4_16 (E : xa_EV) {L : List Nat} {T : xa_AH} {R : xa_AR} {h : Nat} (hm : (ci h 16) ∈ L) (h0 : ∀ k, R (ci h 16) k = none) (hcl : ∀ b k x, R b k = some x → x ∈ L) (hnew : ∀ r, 17 ≤ r → r ≤ 31 → ¬ ci h r ∈ L) : xa_CtA E mX4_init [.ref (ci h 16)] L T R (PN cnr [(ci h 19), (ci h 20), (ci h 21), (ci h 23), (ci h 24), (ci h 26), (ci h 28), (ci h 29), (ci h 30), (ci h 31)] [2, 3, 4, 6, 7, 9, 11, 12, 13, 14] (ci h 16) L T R) := by
  refine xa_CtA.of [some (.ref (ci h 16))] rfl (Nat.le_of_ble_eq_true rfl) (by simp [Value.category]) rfl ?_
  have acc := acc_0 (c := cnr) (T := T) h0 hcl
  refine xa_aload_n (pc := 0) dX4_init_0 rfl ?_
  refine xa_objInit (pc := 1) dX4_init_1 loX4_3 lo_im lo_cd (by decide) (by decide) ?_
  refine xa_aload_n (pc := 4) dX4_init_4 rfl ?_
  refine xa_bipush (pc := 5) (v := 16) dX4_init_5 (by decide) ?_
  refine xa_newI (pc := 7) (ci h 19) 16 dX4_init_7 (by decide) (by decide) (ci_kd h 19 (by decide)) (ci_ln h 19 (by decide)) (by decide) (acc_n acc (hnew 19 (by decide) (by decide)) (by simp [ci])) (hnew 19 (by decide) (by decide)) (by simp [ci]) (by simp [ci]) (acc_fr acc (hnew 19 (by decide) (by decide)) (by simp [ci])) (by decide) (by decide) ?_
  refine xa_putRF (pc := 9) (some (ci h 19)) 4 2 lpX4_9 dX4_init_9 rfl (List.mem_append_left _ (acc_m acc hm)) (kd_16 _) rfl (fun _ => by cases ‹Option Nat› <;> rfl) (fun _ => by cases ‹Option Nat› <;> rfl) ?_
  replace acc := acc_arr (a := (ci h 19)) (f := 2) acc (by simp [ci]) (by simp [ci]) (by rw [cnr_ci (by decide)]; rfl) (fun k => cnr_no [] (by decide) (by decide) List.not_mem_nil)
  generalize L ++ [(ci h 19)] = L1 at acc ⊢
  generalize xa_zi T (ci h 19) = T1 at acc ⊢
  generalize xa_upr (xa_zr R (ci h 19)) (ci h 16) 2 (some (ci h 19)) = R1 at acc ⊢
  refine xa_aload_n (pc := 12) dX4_init_12 rfl ?_
  refine xa_bipush (pc := 13) (v := 16) dX4_init_13 (by decide) ?_
  refine xa_newI (pc := 15) (ci h 20) 16 dX4_init_15 (by decide) (by decide) (ci_kd h 20 (by decide)) (ci_ln h 20 (by decide)) (by decide) (acc_n acc (hnew 20 (by decide) (by decide)) (by simp [ci])) (hnew 20 (by decide) (by decide)) (by simp [ci]) (by simp [ci]) (acc_fr acc (hnew 20 (by decide) (by decide)) (by simp [ci])) (by decide) (by decide) ?_
  refine xa_putRF (pc := 17) (some (ci h 20)) 4 3 lpX4_15 dX4_init_17 rfl (List.mem_append_left _ (acc_m acc hm)) (kd_16 _) rfl (fun _ => by cases ‹Option Nat› <;> rfl) (fun _ => by cases ‹Option Nat› <;> rfl) ?_
  replace acc := acc_arr (a := (ci h 20)) (f := 3) acc (by simp [ci]) (by simp [ci]) (by rw [cnr_ci (by decide)]; rfl) (fun k => cnr_no [] (by decide) (by decide) List.not_mem_nil)
  generalize L1 ++ [(ci h 20)] = L2 at acc ⊢
  generalize xa_zi T1 (ci h 20) = T2 at acc ⊢
  generalize xa_upr (xa_zr R1 (ci h 20)) (ci h 16) 3 (some (ci h 20)) = R2 at acc ⊢
  refine xa_aload_n (pc := 20) dX4_init_20 rfl ?_
  refine xa_bipush (pc := 21) (v := 16) dX4_init_21 (by decide) ?_
  refine xa_newI (pc := 23) (ci h 21) 16 dX4_init_23 (by decide) (by decide) (ci_kd h 21 (by decide)) (ci_ln h 21 (by decide)) (by decide) (acc_n acc (hnew 21 (by decide) (by decide)) (by simp [ci])) (hnew 21 (by decide) (by decide)) (by simp [ci]) (by simp [ci]) (acc_fr acc (hnew 21 (by decide) (by decide)) (by simp [ci])) (by decide) (by decide) ?_
  refine xa_putRF (pc := 25) (some (ci h 21)) 4 4 lpX4_18 dX4_init_25 rfl (List.mem_append_left _ (acc_m acc hm)) (kd_16 _) rfl (fun _ => by cases ‹Option Nat› <;> rfl) (fun _ => by cases ‹Option Nat› <;> rfl) ?_
  replace acc := acc_arr (a := (ci h 21)) (f := 4) acc (by simp [ci]) (by simp [ci]) (by rw [cnr_ci (by decide)]; rfl) (fun k => cnr_no [] (by decide) (by decide) List.not_mem_nil)
  generalize L2 ++ [(ci h 21)] = L3 at acc ⊢
  generalize xa_zi T2 (ci h 21) = T3 at acc ⊢
  generalize xa_upr (xa_zr R2 (ci h 21)) (ci h 16) 4 (some (ci h 21)) = R3 at acc ⊢
  refine xa_aload_n (pc := 28) dX4_init_28 rfl ?_
  refine xa_bipush (pc := 29) (v := 32) dX4_init_29 (by decide) ?_
  refine xa_newI (pc := 31) (ci h 23) 32 dX4_init_31 (by decide) (by decide) (ci_kd h 23 (by decide)) (ci_ln h 23 (by decide)) (by decide) (acc_n acc (hnew 23 (by decide) (by decide)) (by simp [ci])) (hnew 23 (by decide) (by decide)) (by simp [ci]) (by simp [ci]) (acc_fr acc (hnew 23 (by decide) (by decide)) (by simp [ci])) (by decide) (by decide) ?_
  refine xa_putRF (pc := 33) (some (ci h 23)) 4 6 lpX4_21 dX4_init_33 rfl (List.mem_append_left _ (acc_m acc hm)) (kd_16 _) rfl (fun _ => by cases ‹Option Nat› <;> rfl) (fun _ => by cases ‹Option Nat› <;> rfl) ?_
  replace acc := acc_arr (a := (ci h 23)) (f := 6) acc (by simp [ci]) (by simp [ci]) (by rw [cnr_ci (by decide)]; rfl) (fun k => cnr_no [] (by decide) (by decide) List.not_mem_nil)
  generalize L3 ++ [(ci h 23)] = L4 at acc ⊢
  generalize xa_zi T3 (ci h 23) = T4 at acc ⊢
  generalize xa_upr (xa_zr R3 (ci h 23)) (ci h 16) 6 (some (ci h 23)) = R4 at acc ⊢
  refine xa_aload_n (pc := 36) dX4_init_36 rfl ?_
  refine xa_bipush (pc := 37) (v := 32) dX4_init_37 (by decide) ?_
  refine xa_newI (pc := 39) (ci h 24) 32 dX4_init_39 (by decide) (by decide) (ci_kd h 24 (by decide)) (ci_ln h 24 (by decide)) (by decide) (acc_n acc (hnew 24 (by decide) (by decide)) (by simp [ci])) (hnew 24 (by decide) (by decide)) (by simp [ci]) (by simp [ci]) (acc_fr acc (hnew 24 (by decide) (by decide)) (by simp [ci])) (by decide) (by decide) ?_
  refine xa_putRF (pc := 41) (some (ci h 24)) 4 7 lpX4_24 dX4_init_41 rfl (List.mem_append_left _ (acc_m acc hm)) (kd_16 _) rfl (fun _ => by cases ‹Option Nat› <;> rfl) (fun _ => by cases ‹Option Nat› <;> rfl) ?_
  replace acc := acc_arr (a := (ci h 24)) (f := 7) acc (by simp [ci]) (by simp [ci]) (by rw [cnr_ci (by decide)]; rfl) (fun k => cnr_no [] (by decide) (by decide) List.not_mem_nil)
  generalize L4 ++ [(ci h 24)] = L5 at acc ⊢
  generalize xa_zi T4 (ci h 24) = T5 at acc ⊢
  generalize xa_upr (xa_zr R4 (ci h 24)) (ci h 16) 7 (some (ci h 24)) = R5 at acc ⊢
  refine xa_aload_n (pc := 44) dX4_init_44 rfl ?_
  refine xa_bipush (pc := 45) (v := 32) dX4_init_45 (by decide) ?_
  refine xa_newI (pc := 47) (ci h 26) 32 dX4_init_47 (by decide) (by decide) (ci_kd h 26 (by decide)) (ci_ln h 26 (by decide)) (by decide) (acc_n acc (hnew 26 (by decide) (by decide)) (by simp [ci])) (hnew 26 (by decide) (by decide)) (by simp [ci]) (by simp [ci]) (acc_fr acc (hnew 26 (by decide) (by decide)) (by simp [ci])) (by decide) (by decide) ?_
  refine xa_putRF (pc := 49) (some (ci h 26)) 4 9 lpX4_27 dX4_init_49 rfl (List.mem_append_left _ (acc_m acc hm)) (kd_16 _) rfl (fun _ => by cases ‹Option Nat› <;> rfl) (fun _ => by cases ‹Option Nat› <;> rfl) ?_
  replace acc := acc_arr (a := (ci h 26)) (f := 9) acc (by simp [ci]) (by simp [ci]) (by rw [cnr_ci (by decide)]; rfl) (fun k => cnr_no [] (by decide) (by decide) List.not_mem_nil)
  generalize L5 ++ [(ci h 26)] = L6 at acc ⊢
  generalize xa_zi T5 (ci h 26) = T6 at acc ⊢
  generalize xa_upr (xa_zr R5 (ci h 26)) (ci h 16) 9 (some (ci h 26)) = R6 at acc ⊢
  refine xa_aload_n (pc := 52) dX4_init_52 rfl ?_
  refine xa_bipush (pc := 53) (v := 32) dX4_init_53 (by decide) ?_
  refine xa_newI (pc := 55) (ci h 28) 32 dX4_init_55 (by decide) (by decide) (ci_kd h 28 (by decide)) (ci_ln h 28 (by decide)) (by decide) (acc_n acc (hnew 28 (by decide) (by decide)) (by simp [ci])) (hnew 28 (by decide) (by decide)) (by simp [ci]) (by simp [ci]) (acc_fr acc (hnew 28 (by decide) (by decide)) (by simp [ci])) (by decide) (by decide) ?_
  refine xa_putRF (pc := 57) (some (ci h 28)) 4 11 lpX4_30 dX4_init_57 rfl (List.mem_append_left _ (acc_m acc hm)) (kd_16 _) rfl (fun _ => by cases ‹Option Nat› <;> rfl) (fun _ => by cases ‹Option Nat› <;> rfl) ?_
  replace acc := acc_arr (a := (ci h 28)) (f := 11) acc (by simp [ci]) (by simp [ci]) (by rw [cnr_ci (by decide)]; rfl) (fun k => cnr_no [] (by decide) (by decide) List.not_mem_nil)
  generalize L6 ++ [(ci h 28)] = L7 at acc ⊢
  generalize xa_zi T6 (ci h 28) = T7 at acc ⊢
  generalize xa_upr (xa_zr R6 (ci h 28)) (ci h 16) 11 (some (ci h 28)) = R7 at acc ⊢
  refine xa_aload_n (pc := 60) dX4_init_60 rfl ?_
  refine xa_bipush (pc := 61) (v := 32) dX4_init_61 (by decide) ?_
  refine xa_newI (pc := 63) (ci h 29) 32 dX4_init_63 (by decide) (by decide) (ci_kd h 29 (by decide)) (ci_ln h 29 (by decide)) (by decide) (acc_n acc (hnew 29 (by decide) (by decide)) (by simp [ci])) (hnew 29 (by decide) (by decide)) (by simp [ci]) (by simp [ci]) (acc_fr acc (hnew 29 (by decide) (by decide)) (by simp [ci])) (by decide) (by decide) ?_
  refine xa_putRF (pc := 65) (some (ci h 29)) 4 12 lpX4_33 dX4_init_65 rfl (List.mem_append_left _ (acc_m acc hm)) (kd_16 _) rfl (fun _ => by cases ‹Option Nat› <;> rfl) (fun _ => by cases ‹Option Nat› <;> rfl) ?_
  replace acc := acc_arr (a := (ci h 29)) (f := 12) acc (by simp [ci]) (by simp [ci]) (by rw [cnr_ci (by decide)]; rfl) (fun k => cnr_no [] (by decide) (by decide) List.not_mem_nil)
  generalize L7 ++ [(ci h 29)] = L8 at acc ⊢
  generalize xa_zi T7 (ci h 29) = T8 at acc ⊢
  generalize xa_upr (xa_zr R7 (ci h 29)) (ci h 16) 12 (some (ci h 29)) = R8 at acc ⊢
  refine xa_aload_n (pc := 68) dX4_init_68 rfl ?_
  refine xa_bipush (pc := 69) (v := 32) dX4_init_69 (by decide) ?_
  refine xa_newI (pc := 71) (ci h 30) 32 dX4_init_71 (by decide) (by decide) (ci_kd h 30 (by decide)) (ci_ln h 30 (by decide)) (by decide) (acc_n acc (hnew 30 (by decide) (by decide)) (by simp [ci])) (hnew 30 (by decide) (by decide)) (by simp [ci]) (by simp [ci]) (acc_fr acc (hnew 30 (by decide) (by decide)) (by simp [ci])) (by decide) (by decide) ?_
  refine xa_putRF (pc := 73) (some (ci h 30)) 4 13 lpX4_36 dX4_init_73 rfl (List.mem_append_left _ (acc_m acc hm)) (kd_16 _) rfl (fun _ => by cases ‹Option Nat› <;> rfl) (fun _ => by cases ‹Option Nat› <;> rfl) ?_
  replace acc := acc_arr (a := (ci h 30)) (f := 13) acc (by simp [ci]) (by simp [ci]) (by rw [cnr_ci (by decide)]; rfl) (fun k => cnr_no [] (by decide) (by decide) List.not_mem_nil)
  generalize L8 ++ [(ci h 30)] = L9 at acc ⊢
  generalize xa_zi T8 (ci h 30) = T9 at acc ⊢
  generalize xa_upr (xa_zr R8 (ci h 30)) (ci h 16) 13 (some (ci h 30)) = R9 at acc ⊢
  refine xa_aload_n (pc := 76) dX4_init_76 rfl ?_
  refine xa_bipush (pc := 77) (v := 32) dX4_init_77 (by decide) ?_
  refine xa_newI (pc := 79) (ci h 31) 32 dX4_init_79 (by decide) (by decide) (ci_kd h 31 (by decide)) (ci_ln h 31 (by decide)) (by decide) (acc_n acc (hnew 31 (by decide) (by decide)) (by simp [ci])) (hnew 31 (by decide) (by decide)) (by simp [ci]) (by simp [ci]) (acc_fr acc (hnew 31 (by decide) (by decide)) (by simp [ci])) (by decide) (by decide) ?_
  refine xa_putRF (pc := 81) (some (ci h 31)) 4 14 lpX4_39 dX4_init_81 rfl (List.mem_append_left _ (acc_m acc hm)) (kd_16 _) rfl (fun _ => by cases ‹Option Nat› <;> rfl) (fun _ => by cases ‹Option Nat› <;> rfl) ?_
  replace acc := acc_arr (a := (ci h 31)) (f := 14) acc (by simp [ci]) (by simp [ci]) (by rw [cnr_ci (by decide)]; rfl) (fun k => cnr_no [] (by decide) (by decide) List.not_mem_nil)
  generalize L9 ++ [(ci h 31)] = L10 at acc ⊢
  generalize xa_zi T9 (ci h 31) = T10 at acc ⊢
  generalize xa_upr (xa_zr R9 (ci h 31)) (ci h 16) 14 (some (ci h 31)) = R10 at acc ⊢
  exact xa_vretA (pc := 84) dX4_init_84 rfl ⟨rfl, acc⟩
set_option maxHeartbeats 4000000 in
theorem cx_i4_32 (E : xa_EV) {L : List Nat} {T : xa_AH} {R : xa_AR} {h : Nat} (hm : (ci h 32) ∈ L) (h0 : ∀ k, R (ci h 32) k = none) (hcl : ∀ b k x, R b k = some x → x ∈ L) (hnew : ∀ r, 33 ≤ r → r ≤ 47 → ¬ ci h r ∈ L) : xa_CtA E mX4_init [.ref (ci h 32)] L T R (PN cnr [(ci h 35), (ci h 36), (ci h 37), (ci h 39), (ci h 40), (ci h 42), (ci h 44), (ci h 45), (ci h 46), (ci h 47)] [2, 3, 4, 6, 7, 9, 11, 12, 13, 14] (ci h 32) L T R) := by
  refine xa_CtA.of [some (.ref (ci h 32))] rfl (Nat.le_of_ble_eq_true rfl) (by simp [Value.category]) rfl ?_
  have acc := acc_0 (c := cnr) (T := T) h0 hcl
  refine xa_aload_n (pc := 0) dX4_init_0 rfl ?_
  refine xa_objInit (pc := 1) dX4_init_1 loX4_3 lo_im lo_cd (by decide) (by decide) ?_
  refine xa_aload_n (pc := 4) dX4_init_4 rfl ?_
  refine xa_bipush (pc := 5) (v := 16) dX4_init_5 (by decide) ?_
  refine xa_newI (pc := 7) (ci h 35) 16 dX4_init_7 (by decide) (by decide) (ci_kd h 35 (by decide)) (ci_ln h 35 (by decide)) (by decide) (acc_n acc (hnew 35 (by decide) (by decide)) (by simp [ci])) (hnew 35 (by decide) (by decide)) (by simp [ci]) (by simp [ci]) (acc_fr acc (hnew 35 (by decide) (by decide)) (by simp [ci])) (by decide) (by decide) ?_
  refine xa_putRF (pc := 9) (some (ci h 35)) 4 2 lpX4_9 dX4_init_9 rfl (List.mem_append_left _ (acc_m acc hm)) (kd_32 _) rfl (fun _ => by cases ‹Option Nat› <;> rfl) (fun _ => by cases ‹Option Nat› <;> rfl) ?_
  replace acc := acc_arr (a := (ci h 35)) (f := 2) acc (by simp [ci]) (by simp [ci]) (by rw [cnr_ci (by decide)]; rfl) (fun k => cnr_no [] (by decide) (by decide) List.not_mem_nil)
  generalize L ++ [(ci h 35)] = L1 at acc ⊢
  generalize xa_zi T (ci h 35) = T1 at acc ⊢
  generalize xa_upr (xa_zr R (ci h 35)) (ci h 32) 2 (some (ci h 35)) = R1 at acc ⊢
  refine xa_aload_n (pc := 12) dX4_init_12 rfl ?_
  refine xa_bipush (pc := 13) (v := 16) dX4_init_13 (by decide) ?_
  refine xa_newI (pc := 15) (ci h 36) 16 dX4_init_15 (by decide) (by decide) (ci_kd h 36 (by decide)) (ci_ln h 36 (by decide)) (by decide) (acc_n acc (hnew 36 (by decide) (by decide)) (by simp [ci])) (hnew 36 (by decide) (by decide)) (by simp [ci]) (by simp [ci]) (acc_fr acc (hnew 36 (by decide) (by decide)) (by simp [ci])) (by decide) (by decide) ?_
  refine xa_putRF (pc := 17) (some (ci h 36)) 4 3 lpX4_15 dX4_init_17 rfl (List.mem_append_left _ (acc_m acc hm)) (kd_32 _) rfl (fun _ => by cases ‹Option Nat› <;> rfl) (fun _ => by cases ‹Option Nat› <;> rfl) ?_
  replace acc := acc_arr (a := (ci h 36)) (f := 3) acc (by simp [ci]) (by simp [ci]) (by rw [cnr_ci (by decide)]; rfl) (fun k => cnr_no [] (by decide) (by decide) List.not_mem_nil)
  generalize L1 ++ [(ci h 36)] = L2 at acc ⊢
  generalize xa_zi T1 (ci h 36) = T2 at acc ⊢
  generalize xa_upr (xa_zr R1 (ci h 36)) (ci h 32) 3 (some (ci h 36)) = R2 at acc ⊢
  refine xa_aload_n (pc := 20) dX4_init_20 rfl ?_
  refine xa_bipush (pc := 21) (v := 16) dX4_init_21 (by decide) ?_
  refine xa_newI (pc := 23) (ci h 37) 16 dX4_init_23 (by decide) (by decide) (ci_kd h 37 (by decide)) (ci_ln h 37 (by decide)) (by decide) (acc_n acc (hnew 37 (by decide) (by decide)) (by simp [ci])) (hnew 37 (by decide) (by decide)) (by simp [ci]) (by simp [ci]) (acc_fr acc (hnew 37 (by decide) (by decide)) (by simp [ci])) (by decide) (by decide) ?_
  refine xa_putRF (pc := 25) (some (ci h 37)) 4 4 lpX4_18 dX4_init_25 rfl (List.mem_append_left _ (acc_m acc hm)) (kd_32 _) rfl (fun _ => by cases ‹Option Nat› <;> rfl) (fun _ => by cases ‹Option Nat› <;> rfl) ?_
  replace acc := acc_arr (a := (ci h 37)) (f := 4) acc (by simp [ci]) (by simp [ci]) (by rw [cnr_ci (by decide)]; rfl) (fun k => cnr_no [] (by decide) (by decide) List.not_mem_nil)
  generalize L2 ++ [(ci h 37)] = L3 at acc ⊢
  generalize xa_zi T2 (ci h 37) = T3 at acc ⊢
  generalize xa_upr (xa_zr R2 (ci h 37)) (ci h 32) 4 (some (ci h 37)) = R3 at acc ⊢
  refine xa_aload_n (pc := 28) dX4_init_28 rfl ?_
  refine xa_bipush (pc := 29) (v := 32) dX4_init_29 (by decide) ?_
  refine xa_newI (pc := 31) (ci h 39) 32 dX4_init_31 (by decide) (by decide) (ci_kd h 39 (by decide)) (ci_ln h 39 (by decide)) (by decide) (acc_n acc (hnew 39 (by decide) (by decide)) (by simp [ci])) (hnew 39 (by decide) (by decide)) (by simp [ci]) (by simp [ci]) (acc_fr acc (hnew 39 (by decide) (by decide)) (by simp [ci])) (by decide) (by decide) ?_
  refine xa_putRF (pc := 33) (some (ci h 39)) 4 6 lpX4_21 dX4_init_33 rfl (List.mem_append_left _ (acc_m acc hm)) (kd_32 _) rfl (fun _ => by cases ‹Option Nat› <;> rfl) (fun _ => by cases ‹Option Nat› <;> rfl) ?_
  replace acc := acc_arr (a := (ci h 39)) (f := 6) acc (by simp [ci]) (by simp [ci]) (by rw [cnr_ci (by decide)]; rfl) (fun k => cnr_no [] (by decide) (by decide) List.not_mem_nil)
  generalize L3 ++ [(ci h 39)] = L4 at acc ⊢
  generalize xa_zi T3 (ci h 39) = T4 at acc ⊢
  generalize xa_upr (xa_zr R3 (ci h 39)) (ci h 32) 6 (some (ci h 39)) = R4 at acc ⊢
  refine xa_aload_n (pc := 36) dX4_init_36 rfl ?_
  refine xa_bipush (pc := 37) (v := 32) dX4_init_37 (by decide) ?_
  refine xa_newI (pc := 39) (ci h 40) 32 dX4_init_39 (by decide) (by decide) (ci_kd h 40 (by decide)) (ci_ln h 40 (by decide)) (by decide) (acc_n acc (hnew 40 (by decide) (by decide)) (by simp [ci])) (hnew 40 (by decide) (by decide)) (by simp [ci]) (by simp [ci]) (acc_fr acc (hnew 40 (by decide) (by decide)) (by simp [ci])) (by decide) (by decide) ?_
  refine xa_putRF (pc := 41) (some (ci h 40)) 4 7 lpX4_24 dX4_init_41 rfl (List.mem_append_left _ (acc_m acc hm)) (kd_32 _) rfl (fun _ => by cases ‹Option Nat› <;> rfl) (fun _ => by cases ‹Option Nat› <;> rfl) ?_
  replace acc := acc_arr (a := (ci h 40)) (f := 7) acc (by simp [ci]) (by simp [ci]) (by rw [cnr_ci (by decide)]; rfl) (fun k => cnr_no [] (by decide) (by decide) List.not_mem_nil)
  generalize L4 ++ [(ci h 40)] = L5 at acc ⊢
  generalize xa_zi T4 (ci h 40) = T5 at acc ⊢
  generalize xa_upr (xa_zr R4 (ci h 40)) (ci h 32) 7 (some (ci h 40)) = R5 at acc ⊢
  refine xa_aload_n (pc := 44) dX4_init_44 rfl ?_
  refine xa_bipush (pc := 45) (v := 32) dX4_init_45 (by decide) ?_
  refine xa_newI (pc := 47) (ci h 42) 32 dX4_init_47 (by decide) (by decide) (ci_kd h 42 (by decide)) (ci_ln h 42 (by decide)) (by decide) (acc_n acc (hnew 42 (by decide) (by decide)) (by simp [ci])) (hnew 42 (by decide) (by decide)) (by simp [ci]) (by simp [ci]) (acc_fr acc (hnew 42 (by decide) (by decide)) (by simp [ci])) (by decide) (by decide) ?_
  refine xa_putRF (pc := 49) (some (ci h 42)) 4 9 lpX4_27 dX4_init_49 rfl (List.mem_append_left _ (acc_m acc hm)) (kd_32 _) rfl (fun _ => by cases ‹Option Nat› <;> rfl) (fun _ => by cases ‹Option Nat› <;> rfl) ?_
  replace acc := acc_arr (a := (ci h 42)) (f := 9) acc (by simp [ci]) (by simp [ci]) (by rw [cnr_ci (by decide)]; rfl) (fun k => cnr_no [] (by decide) (by decide) List.not_mem_nil)
  generalize L5 ++ [(ci h 42)] = L6 at acc ⊢
  generalize xa_zi T5 (ci h 42) = T6 at acc ⊢
  generalize xa_upr (xa_zr R5 (ci h 42)) (ci h 32) 9 (some (ci h 42)) = R6 at acc ⊢
  refine xa_aload_n (pc := 52) dX4_init_52 rfl ?_
  refine xa_bipush (pc := 53) (v := 32) dX4_init_53 (by decide) ?_
  refine xa_newI (pc := 55) (ci h 44) 32 dX4_init_55 (by decide) (by decide) (ci_kd h 44 (by decide)) (ci_ln h 44 (by decide)) (by decide) (acc_n acc (hnew 44 (by decide) (by decide)) (by simp [ci])) (hnew 44 (by decide) (by decide)) (by simp [ci]) (by simp [ci]) (acc_fr acc (hnew 44 (by decide) (by decide)) (by simp [ci])) (by decide) (by decide) ?_
  refine xa_putRF (pc := 57) (some (ci h 44)) 4 11 lpX4_30 dX4_init_57 rfl (List.mem_append_left _ (acc_m acc hm)) (kd_32 _) rfl (fun _ => by cases ‹Option Nat› <;> rfl) (fun _ => by cases ‹Option Nat› <;> rfl) ?_
  replace acc := acc_arr (a := (ci h 44)) (f := 11) acc (by simp [ci]) (by simp [ci]) (by rw [cnr_ci (by decide)]; rfl) (fun k => cnr_no [] (by decide) (by decide) List.not_mem_nil)
  generalize L6 ++ [(ci h 44)] = L7 at acc ⊢
  generalize xa_zi T6 (ci h 44) = T7 at acc ⊢
  generalize xa_upr (xa_zr R6 (ci h 44)) (ci h 32) 11 (some (ci h 44)) = R7 at acc ⊢
  refine xa_aload_n (pc := 60) dX4_init_60 rfl ?_
  refine xa_bipush (pc := 61) (v := 32) dX4_init_61 (by decide) ?_
  refine xa_newI (pc := 63) (ci h 45) 32 dX4_init_63 (by decide) (by decide) (ci_kd h 45 (by decide)) (ci_ln h 45 (by decide)) (by decide) (acc_n acc (hnew 45 (by decide) (by decide)) (by simp [ci])) (hnew 45 (by decide) (by decide)) (by simp [ci]) (by simp [ci]) (acc_fr acc (hnew 45 (by decide) (by decide)) (by simp [ci])) (by decide) (by decide) ?_
  refine xa_putRF (pc := 65) (some (ci h 45)) 4 12 lpX4_33 dX4_init_65 rfl (List.mem_append_left _ (acc_m acc hm)) (kd_32 _) rfl (fun _ => by cases ‹Option Nat› <;> rfl) (fun _ => by cases ‹Option Nat› <;> rfl) ?_
  replace acc := acc_arr (a := (ci h 45)) (f := 12) acc (by simp [ci]) (by simp [ci]) (by rw [cnr_ci (by decide)]; rfl) (fun k => cnr_no [] (by decide) (by decide) List.not_mem_nil)
  generalize L7 ++ [(ci h 45)] = L8 at acc ⊢
  generalize xa_zi T7 (ci h 45) = T8 at acc ⊢
  generalize xa_upr (xa_zr R7 (ci h 45)) (ci h 32) 12 (some (ci h 45)) = R8 at acc ⊢
  refine xa_aload_n (pc := 68) dX4_init_68 rfl ?_
  refine xa_bipush (pc := 69) (v := 32) dX4_init_69 (by decide) ?_
  refine xa_newI (pc := 71) (ci h 46) 32 dX4_init_71 (by decide) (by decide) (ci_kd h 46 (by decide)) (ci_ln h 46 (by decide)) (by decide) (acc_n acc (hnew 46 (by decide) (by decide)) (by simp [ci])) (hnew 46 (by decide) (by decide)) (by simp [ci]) (by simp [ci]) (acc_fr acc (hnew 46 (by decide) (by decide)) (by simp [ci])) (by decide) (by decide) ?_
  refine xa_putRF (pc := 73) (some (ci h 46)) 4 13 lpX4_36 dX4_init_73 rfl (List.mem_append_left _ (acc_m acc hm)) (kd_32 _) rfl (fun _ => by cases ‹Option Nat› <;> rfl) (fun _ => by cases ‹Option Nat› <;> rfl) ?_
  replace acc := acc_arr (a := (ci h 46)) (f := 13) acc (by simp [ci]) (by simp [ci]) (by rw [cnr_ci (by decide)]; rfl) (fun k => cnr_no [] (by decide) (by decide) List.not_mem_nil)
  generalize L8 ++ [(ci h 46)] = L9 at acc ⊢
  generalize xa_zi T8 (ci h 46) = T9 at acc ⊢
  generalize xa_upr (xa_zr R8 (ci h 46)) (ci h 32) 13 (some (ci h 46)) = R9 at acc ⊢
  refine xa_aload_n (pc := 76) dX4_init_76 rfl ?_
  refine xa_bipush (pc := 77) (v := 32) dX4_init_77 (by decide) ?_
  refine xa_newI (pc := 79) (ci h 47) 32 dX4_init_79 (by decide) (by decide) (ci_kd h 47 (by decide)) (ci_ln h 47 (by decide)) (by decide) (acc_n acc (hnew 47 (by decide) (by decide)) (by simp [ci])) (hnew 47 (by decide) (by decide)) (by simp [ci]) (by simp [ci]) (acc_fr acc (hnew 47 (by decide) (by decide)) (by simp [ci])) (by decide) (by decide) ?_
  refine xa_putRF (pc := 81) (some (ci h 47)) 4 14 lpX4_39 dX4_init_81 rfl (List.mem_append_left _ (acc_m acc hm)) (kd_32 _) rfl (fun _ => by cases ‹Option Nat› <;> rfl) (fun _ => by cases ‹Option Nat› <;> rfl) ?_
  replace acc := acc_arr (a := (ci h 47)) (f := 14) acc (by simp [ci]) (by simp [ci]) (by rw [cnr_ci (by decide)]; rfl) (fun k => cnr_no [] (by decide) (by decide) List.not_mem_nil)
  generalize L9 ++ [(ci h 47)] = L10 at acc ⊢
  generalize xa_zi T9 (ci h 47) = T10 at acc ⊢
  generalize xa_upr (xa_zr R9 (ci h 47)) (ci h 32) 14 (some (ci h 47)) = R10 at acc ⊢
  exact xa_vretA (pc := 84) dX4_init_84 rfl ⟨rfl, acc⟩
set_option maxHeartbeats 4000000 in
theorem cx_i4_48 (E : xa_EV) {L : List Nat} {T : xa_AH} {R : xa_AR} {h : Nat} (hm : (ci h 48) ∈ L) (h0 : ∀ k, R (ci h 48) k = none) (hcl : ∀ b k x, R b k = some x → x ∈ L) (hnew : ∀ r, 49 ≤ r → r ≤ 63 → ¬ ci h r ∈ L) : xa_CtA E mX4_init [.ref (ci h 48)] L T R (PN cnr [(ci h 51), (ci h 52), (ci h 53), (ci h 55), (ci h 56), (ci h 58), (ci h 60), (ci h 61), (ci h 62), (ci h 63)] [2, 3, 4, 6, 7, 9, 11, 12, 13, 14] (ci h 48) L T R) := by
  refine xa_CtA.of [some (.ref (ci h 48))] rfl (Nat.le_of_ble_eq_true rfl) (by simp [Value.category]) rfl ?_
  have acc := acc_0 (c := cnr) (T := T) h0 hcl
  refine xa_aload_n (pc := 0) dX4_init_0 rfl ?_
  refine xa_objInit (pc := 1) dX4_init_1 loX4_3 lo_im lo_cd (by decide) (by decide) ?_
  refine xa_aload_n (pc := 4) dX4_init_4 rfl ?_
  refine xa_bipush (pc := 5) (v := 16) dX4_init_5 (by decide) ?_
  refine xa_newI (pc := 7) (ci h 51) 16 dX4_init_7 (by decide) (by decide) (ci_kd h 51 (by decide)) (ci_ln h 51 (by decide)) (by decide) (acc_n acc (hnew 51 (by decide) (by decide)) (by simp [ci])) (hnew 51 (by decide) (by decide)) (by simp [ci]) (by simp [ci]) (acc_fr acc (hnew 51 (by decide) (by decide)) (by simp [ci])) (by decide) (by decide) ?_
  refine xa_putRF (pc := 9) (some (ci h 51)) 4 2 lpX4_9 dX4_init_9 rfl (List.mem_append_left _ (acc_m acc hm)) (kd_48 _) rfl (fun _ => by cases ‹Option Nat› <;> rfl) (fun _ => by cases ‹Option Nat› <;> rfl) ?_
  replace acc := acc_arr (a := (ci h 51)) (f := 2) acc (by simp [ci]) (by simp [ci]) (by rw [cnr_ci (by decide)]; rfl) (fun k => cnr_no [] (by decide) (by decide) List.not_mem_nil)
  generalize L ++ [(ci h 51)] = L1 at acc ⊢
  generalize xa_zi T (ci h 51) = T1 at acc ⊢
  generalize xa_upr (xa_zr R (ci h 51)) (ci h 48) 2 (some (ci h 51)) = R1 at acc ⊢
  refine xa_aload_n (pc := 12) dX4_init_12 rfl ?_
  refine xa_bipush (pc := 13) (v := 16) dX4_init_13 (by decide) ?_
  refine xa_newI (pc := 15) (ci h 52) 16 dX4_init_15 (by decide) (by decide) (ci_kd h 52 (by decide)) (ci_ln h 52 (by decide)) (by decide) (acc_n acc (hnew 52 (by decide) (by decide)) (by simp [ci])) (hnew 52 (by decide) (by decide)) (by simp [ci]) (by simp [ci]) (acc_fr acc (hnew 52 (by decide) (by decide)) (by simp [ci])) (by decide) (by decide) ?_
  refine xa_putRF (pc := 17) (some (ci h 52)) 4 3 lpX4_15 dX4_init_17 rfl (List.mem_append_left _ (acc_m acc hm)) (kd_48 _) rfl (fun _ => by cases ‹Option Nat› <;> rfl) (fun _ => by cases ‹Option Nat› <;> rfl) ?_
  replace acc := acc_arr (a := (ci h 52)) (f := 3) acc (by simp [ci]) (by simp [ci]) (by rw [cnr_ci (by decide)]; rfl) (fun k => cnr_no [] (by decide) (by decide) List.not_mem_nil)
  generalize L1 ++ [(ci h 52)] = L2 at acc ⊢
  generalize xa_zi T1 (ci h 52) = T2 at acc ⊢
  generalize xa_upr (xa_zr R1 (ci h 52)) (ci h 48) 3 (some (ci h 52)) = R2 at acc ⊢
  refine xa_aload_n (pc := 20) dX4_init_20 rfl ?_
  refine xa_bipush (pc := 21) (v := 16) dX4_init_21 (by decide) ?_
  refine xa_newI (pc := 23) (ci h 53) 16 dX4_init_23 (by decide) (by decide) (ci_kd h 53 (by decide)) (ci_ln h 53 (by decide)) (by decide) (acc_n acc (hnew 53 (by decide) (by decide)) (by simp [ci])) (hnew 53 (by decide) (by decide)) (by simp [ci]) (by simp [ci]) (acc_fr acc (hnew 53 (by decide) (by decide)) (by simp [ci])) (by decide) (by decide) ?_
  refine xa_putRF (pc := 25) (some (ci h 53)) 4 4 lpX4_18 dX4_init_25 rfl (List.mem_append_left _ (acc_m acc hm)) (kd_48 _) rfl (fun _ => by cases ‹Option Nat› <;> rfl) (fun _ => by cases ‹Option Nat› <;> rfl) ?_
  replace acc := acc_arr (a := (ci h 53)) (f := 4) acc (by simp [ci]) (by simp [ci]) (by rw [cnr_ci (by decide)]; rfl) (fun k => cnr_no [] (by decide) (by decide) List.not_mem_nil)
  generalize L2 ++ [(ci h 53)] = L3 at acc ⊢
  generalize xa_zi T2 (ci h 53) = T3 at acc ⊢
  generalize xa_upr (xa_zr R2 (ci h 53)) (ci h 48) 4 (some (ci h 53)) = R3 at acc ⊢
  refine xa_aload_n (pc := 28) dX4_init_28 rfl ?_
  refine xa_bipush (pc := 29) (v := 32) dX4_init_29 (by decide) ?_
  refine xa_newI (pc := 31) (ci h 55) 32 dX4_init_31 (by decide) (by decide) (ci_kd h 55 (by decide)) (ci_ln h 55 (by decide)) (by decide) (acc_n acc (hnew 55 (by decide) (by decide)) (by simp [ci])) (hnew 55 (by decide) (by decide)) (by simp [ci]) (by simp [ci]) (acc_fr acc (hnew 55 (by decide) (by decide)) (by simp [ci])) (by decide) (by decide) ?_
  refine xa_putRF (pc := 33) (some (ci h 55)) 4 6 lpX4_21 dX4_init_33 rfl (List.mem_append_left _ (acc_m acc hm)) (kd_48 _) rfl (fun _ => by cases ‹Option Nat› <;> rfl) (fun _ => by cases ‹Option Nat› <;> rfl) ?_
  replace acc := acc_arr (a := (ci h 55)) (f := 6) acc (by simp [ci]) (by simp [ci]) (by rw [cnr_ci (by decide)]; rfl) (fun k => cnr_no [] (by decide) (by decide) List.not_mem_nil)
  generalize L3 ++ [(ci h 55)] = L4 at acc ⊢
  generalize xa_zi T3 (ci h 55) = T4 at acc ⊢
  generalize xa_upr (xa_zr R3 (ci h 55)) (ci h 48) 6 (some (ci h 55)) = R4 at acc ⊢
  refine xa_aload_n (pc := 36) dX4_init_36 rfl ?_
  refine xa_bipush (pc := 37) (v := 32) dX4_init_37 (by decide) ?_
  refine xa_newI (pc := 39) (ci h 56) 32 dX4_init_39 (by decide) (by decide) (ci_kd h 56 (by decide)) (ci_ln h 56 (by decide)) (by decide) (acc_n acc (hnew 56 (by decide) (by decide)) (by simp [ci])) (hnew 56 (by decide) (by decide)) (by simp [ci]) (by simp [ci]) (acc_fr acc (hnew 56 (by decide) (by decide)) (by simp [ci])) (by decide) (by decide) ?_
  refine xa_putRF (pc := 41) (some (ci h 56)) 4 7 lpX4_24 dX4_init_41 rfl (List.mem_append_left _ (acc_m acc hm)) (kd_48 _) rfl (fun _ => by cases ‹Option Nat› <;> rfl) (fun _ => by cases ‹Option Nat› <;> rfl) ?_
  replace acc := acc_arr (a := (ci h 56)) (f := 7) acc (by simp [ci]) (by simp [ci]) (by rw [cnr_ci (by decide)]; rfl) (fun k => cnr_no [] (by decide) (by decide) List.not_mem_nil)
  generalize L4 ++ [(ci h 56)] = L5 at acc ⊢
  generalize xa_zi T4 (ci h 56) = T5 at acc ⊢
  generalize xa_upr (xa_zr R4 (ci h 56)) (ci h 48) 7 (some (ci h 56)) = R5 at acc ⊢
  refine xa_aload_n (pc := 44) dX4_init_44 rfl ?_
  refine xa_bipush (pc := 45) (v := 32) dX4_init_45 (by decide) ?_
  refine xa_newI (pc := 47) (ci h 58) 32 dX4_init_47 (by decide) (by decide) (ci_kd h 58 (by decide)) (ci_ln h 58 (by decide)) (by decide) (acc_n acc (hnew 58 (by decide) (by decide)) (by simp [ci])) (hnew 58 (by decide) (by decide)) (by simp [ci]) (by simp [ci]) (acc_fr acc (hnew 58 (by decide) (by decide)) (by simp [ci])) (by decide) (by decide) ?_
  refine xa_putRF (pc := 49) (some (ci h 58)) 4 9 lpX4_27 dX4_init_49 rfl (List.mem_append_left _ (acc_m acc hm)) (kd_48 _) rfl (fun _ => by cases ‹Option Nat› <;> rfl) (fun _ => by cases ‹Option Nat› <;> rfl) ?_
  replace acc := acc_arr (a := (ci h 58)) (f := 9) acc (by simp [ci]) (by simp [ci]) (by rw [cnr_ci (by decide)]; rfl) (fun k => cnr_no [] (by decide) (by decide) List.not_mem_nil)
  generalize L5 ++ [(ci h 58)] = L6 at acc ⊢
  generalize xa_zi T5 (ci h 58) = T6 at acc ⊢
  generalize xa_upr (xa_zr R5 (ci h 58)) (ci h 48) 9 (some (ci h 58)) = R6 at acc ⊢
  refine xa_aload_n (pc := 52) dX4_init_52 rfl ?_
  refine xa_bipush (pc := 53) (v := 32) dX4_init_53 (by decide) ?_
  refine xa_newI (pc := 55) (ci h 60) 32 dX4_init_55 (by decide) (by decide) (ci_kd h 60 (by decide)) (ci_ln h 60 (by decide)) (by decide) (acc_n acc (hnew 60 (by decide) (by decide)) (by simp [ci])) (hnew 60 (by decide) (by decide)) (by simp [ci]) (by simp [ci]) (acc_fr acc (hnew 60 (by decide) (by decide)) (by simp [ci])) (by decide) (by decide) ?_
  refine xa_putRF (pc := 57) (some (ci h 60)) 4 11 lpX4_30 dX4_init_57 rfl (List.mem_append_left _ (acc_m acc hm)) (kd_48 _) rfl (fun _ => by cases ‹Option Nat› <;> rfl) (fun _ => by cases ‹Option Nat› <;> rfl) ?_
  replace acc := acc_arr (a := (ci h 60)) (f := 11) acc (by simp [ci]) (by simp [ci]) (by rw [cnr_ci (by decide)]; rfl) (fun k => cnr_no [] (by decide) (by decide) List.not_mem_nil)
  generalize L6 ++ [(ci h 60)] = L7 at acc ⊢
  generalize xa_zi T6 (ci h 60) = T7 at acc ⊢
  generalize xa_upr (xa_zr R6 (ci h 60)) (ci h 48) 11 (some (ci h 60)) = R7 at acc ⊢
  refine xa_aload_n (pc := 60) dX4_init_60 rfl ?_
  refine xa_bipush (pc := 61) (v := 32) dX4_init_61 (by decide) ?_
  refine xa_newI (pc := 63) (ci h 61) 32 dX4_init_63 (by decide) (by decide) (ci_kd h 61 (by decide)) (ci_ln h 61 (by decide)) (by decide) (acc_n acc (hnew 61 (by decide) (by decide)) (by simp [ci])) (hnew 61 (by decide) (by decide)) (by simp [ci]) (by simp [ci]) (acc_fr acc (hnew 61 (by decide) (by decide)) (by simp [ci])) (by decide) (by decide) ?_
  refine xa_putRF (pc := 65) (some (ci h 61)) 4 12 lpX4_33 dX4_init_65 rfl (List.mem_append_left _ (acc_m acc hm)) (kd_48 _) rfl (fun _ => by cases ‹Option Nat› <;> rfl) (fun _ => by cases ‹Option Nat› <;> rfl) ?_
  replace acc := acc_arr (a := (ci h 61)) (f := 12) acc (by simp [ci]) (by simp [ci]) (by rw [cnr_ci (by decide)]; rfl) (fun k => cnr_no [] (by decide) (by decide) List.not_mem_nil)
  generalize L7 ++ [(ci h 61)] = L8 at acc ⊢
  generalize xa_zi T7 (ci h 61) = T8 at acc ⊢
  generalize xa_upr (xa_zr R7 (ci h 61)) (ci h 48) 12 (some (ci h 61)) = R8 at acc ⊢
  refine xa_aload_n (pc := 68) dX4_init_68 rfl ?_
  refine xa_bipush (pc := 69) (v := 32) dX4_init_69 (by decide) ?_
  refine xa_newI (pc := 71) (ci h 62) 32 dX4_init_71 (by decide) (by decide) (ci_kd h 62 (by decide)) (ci_ln h 62 (by decide)) (by decide) (acc_n acc (hnew 62 (by decide) (by decide)) (by simp [ci])) (hnew 62 (by decide) (by decide)) (by simp [ci]) (by simp [ci]) (acc_fr acc (hnew 62 (by decide) (by decide)) (by simp [ci])) (by decide) (by decide) ?_
  refine xa_putRF (pc := 73) (some (ci h 62)) 4 13 lpX4_36 dX4_init_73 rfl (List.mem_append_left _ (acc_m acc hm)) (kd_48 _) rfl (fun _ => by cases ‹Option Nat› <;> rfl) (fun _ => by cases ‹Option Nat› <;> rfl) ?_
  replace acc := acc_arr (a := (ci h 62)) (f := 13) acc (by simp [ci]) (by simp [ci]) (by rw [cnr_ci (by decide)]; rfl) (fun k => cnr_no [] (by decide) (by decide) List.not_mem_nil)
  generalize L8 ++ [(ci h 62)] = L9 at acc ⊢
  generalize xa_zi T8 (ci h 62) = T9 at acc ⊢
  generalize xa_upr (xa_zr R8 (ci h 62)) (ci h 48) 13 (some (ci h 62)) = R9 at acc ⊢
  refine xa_aload_n (pc := 76) dX4_init_76 rfl ?_
  refine xa_bipush (pc := 77) (v := 32) dX4_init_77 (by decide) ?_
  refine xa_newI (pc := 79) (ci h 63) 32 dX4_init_79 (by decide) (by decide) (ci_kd h 63 (by decide)) (ci_ln h 63 (by decide)) (by decide) (acc_n acc (hnew 63 (by decide) (by decide)) (by simp [ci])) (hnew 63 (by decide) (by decide)) (by simp [ci]) (by simp [ci]) (acc_fr acc (hnew 63 (by decide) (by decide)) (by simp [ci])) (by decide) (by decide) ?_
  refine xa_putRF (pc := 81) (some (ci h 63)) 4 14 lpX4_39 dX4_init_81 rfl (List.mem_append_left _ (acc_m acc hm)) (kd_48 _) rfl (fun _ => by cases ‹Option Nat› <;> rfl) (fun _ => by cases ‹Option Nat› <;> rfl) ?_
  replace acc := acc_arr (a := (ci h 63)) (f := 14) acc (by simp [ci]) (by simp [ci]) (by rw [cnr_ci (by decide)]; rfl) (fun k => cnr_no [] (by decide) (by decide) List.not_mem_nil)
  generalize L9 ++ [(ci h 63)] = L10 at acc ⊢
  generalize xa_zi T9 (ci h 63) = T10 at acc ⊢
  generalize xa_upr (xa_zr R9 (ci h 63)) (ci h 48) 14 (some (ci h 63)) = R10 at acc ⊢
  exact xa_vretA (pc := 84) dX4_init_84 rfl ⟨rfl, acc⟩
set_option maxHeartbeats 4000000 in
theorem cx_i4_64 (E : xa_EV) {L : List Nat} {T : xa_AH} {R : xa_AR} {h : Nat} (hm : (ci h 64) ∈ L) (h0 : ∀ k, R (ci h 64) k = none) (hcl : ∀ b k x, R b k = some x → x ∈ L) (hnew : ∀ r, 65 ≤ r → r ≤ 79 → ¬ ci h r ∈ L) : xa_CtA E mX4_init [.ref (ci h 64)] L T R (PN cnr [(ci h 67), (ci h 68), (ci h 69), (ci h 71), (ci h 72), (ci h 74), (ci h 76), (ci h 77), (ci h 78), (ci h 79)] [2, 3, 4, 6, 7, 9, 11, 12, 13, 14] (ci h 64) L T R) := by
  refine xa_CtA.of [some (.ref (ci h 64))] rfl (Nat.le_of_ble_eq_true rfl) (by simp [Value.category]) rfl ?_
  have acc := acc_0 (c := cnr) (T := T) h0 hcl
  refine xa_aload_n (pc := 0) dX4_init_0 rfl ?_
  refine xa_objInit (pc := 1) dX4_init_1 loX4_3 lo_im lo_cd (by decide) (by decide) ?_
  refine xa_aload_n (pc := 4) dX4_init_4 rfl ?_
  refine xa_bipush (pc := 5) (v := 16) dX4_init_5 (by decide) ?_
  refine xa_newI (pc := 7) (ci h 67) 16 dX4_init_7 (by decide) (by decide) (ci_kd h 67 (by decide)) (ci_ln h 67 (by decide)) (by decide) (acc_n acc (hnew 67 (by decide) (by decide)) (by simp [ci])) (hnew 67 (by decide) (by decide)) (by simp [ci]) (by simp [ci]) (acc_fr acc (hnew 67 (by decide) (by decide)) (by simp [ci])) (by decide) (by decide) ?_
  refine xa_putRF (pc := 9) (some (ci h 67)) 4 2 lpX4_9 dX4_init_9 rfl (List.mem_append_left _ (acc_m acc hm)) (kd_64 _) rfl (fun _ => by cases ‹Option Nat› <;> rfl) (fun _ => by cases ‹Option Nat› <;> rfl) ?_
  replace acc := acc_arr (a := (ci h 67)) (f := 2) acc (by simp [ci]) (by simp [ci]) (by rw [cnr_ci (by decide)]; rfl) (fun k => cnr_no [] (by decide) (by decide) List.not_mem_nil)
  generalize L ++ [(ci h 67)] = L1 at acc ⊢
  generalize xa_zi T (ci h 67) = T1 at acc ⊢
  generalize xa_upr (xa_zr R (ci h 67)) (ci h 64) 2 (some (ci h 67)) = R1 at acc ⊢
  refine xa_aload_n (pc := 12) dX4_init_12 rfl ?_
  refine xa_bipush (pc := 13) (v := 16) dX4_init_13 (by decide) ?_
  refine xa_newI (pc := 15) (ci h 68) 16 dX4_init_15 (by decide) (by decide) (ci_kd h 68 (by decide)) (ci_ln h 68 (by decide)) (by decide) (acc_n acc (hnew 68 (by decide) (by decide)) (by simp [ci])) (hnew 68 (by decide) (by decide)) (by simp [ci]) (by simp [ci]) (acc_fr acc (hnew 68 (by decide) (by decide)) (by simp [ci])) (by decide) (by decide) ?_
  refine xa_putRF (pc := 17) (some (ci h 68)) 4 3 lpX4_15 dX4_init_17 rfl (List.mem_append_left _ (acc_m acc hm)) (kd_64 _) rfl (fun _ => by cases ‹Option Nat› <;> rfl) (fun _ => by cases ‹Option Nat› <;> rfl) ?_
  replace acc := acc_arr (a := (ci h 68)) (f := 3) acc (by simp [ci]) (by simp [ci]) (by rw [cnr_ci (by decide)]; rfl) (fun k => cnr_no [] (by decide) (by decide) List.not_mem_nil)
  generalize L1 ++ [(ci h 68)] = L2 at acc ⊢
  generalize xa_zi T1 (ci h 68) = T2 at acc ⊢
  generalize xa_upr (xa_zr R1 (ci h 68)) (ci h 64) 3 (some (ci h 68)) = R2 at acc ⊢
  refine xa_aload_n (pc := 20) dX4_init_20 rfl ?_
  refine xa_bipush (pc := 21) (v := 16) dX4_init_21 (by decide) ?_
  refine xa_newI (pc := 23) (ci h 69) 16 dX4_init_23 (by decide) (by decide) (ci_kd h 69 (by decide)) (ci_ln h 69 (by decide)) (by decide) (acc_n acc (hnew 69 (by decide) (by decide)) (by simp [ci])) (hnew 69 (by decide) (by decide)) (by simp [ci]) (by simp [ci]) (acc_fr acc (hnew 69 (by decide) (by decide)) (by simp [ci])) (by decide) (by decide) ?_
  refine xa_putRF (pc := 25) (some (ci h 69)) 4 4 lpX4_18 dX4_init_25 rfl (List.mem_append_left _ (acc_m acc hm)) (kd_64 _) rfl (fun _ => by cases ‹Option Nat› <;> rfl) (fun _ => by cases ‹Option Nat› <;> rfl) ?_
  replace acc := acc_arr (a := (ci h 69)) (f := 4) acc (by simp [ci]) (by simp [ci]) (by rw [cnr_ci (by decide)]; rfl) (fun k => cnr_no [] (by decide) (by decide) List.not_mem_nil)
  generalize L2 ++ [(ci h 69)] = L3 at acc ⊢
  generalize xa_zi T2 (ci h 69) = T3 at acc ⊢
  generalize xa_upr (xa_zr R2 (ci h 69)) (ci h 64) 4 (some (ci h 69)) = R3 at acc ⊢
  refine xa_aload_n (pc := 28) dX4_init_28 rfl ?_
  refine xa_bipush (pc := 29) (v := 32) dX4_init_29 (by decide) ?_
  refine xa_newI (pc := 31) (ci h 71) 32 dX4_init_31 (by decide) (by decide) (ci_kd h 71 (by decide)) (ci_ln h 71 (by decide)) (by decide) (acc_n acc (hnew 71 (by decide) (by decide)) (by simp [ci])) (hnew 71 (by decide) (by decide)) (by simp [ci]) (by simp [ci]) (acc_fr acc (hnew 71 (by decide) (by decide)) (by simp [ci])) (by decide) (by decide) ?_
  refine xa_putRF (pc := 33) (some (ci h 71)) 4 6 lpX4_21 dX4_init_33 rfl (List.mem_append_left _ (acc_m acc hm)) (kd_64 _) rfl (fun _ => by cases ‹Option Nat› <;> rfl) (fun _ => by cases ‹Option Nat› <;> rfl) ?_
  replace acc := acc_arr (a := (ci h 71)) (f := 6) acc (by simp [ci]) (by simp [ci]) (by rw [cnr_ci (by decide)]; rfl) (fun k => cnr_no [] (by decide) (by decide) List.not_mem_nil)
  generalize L3 ++ [(ci h 71)] = L4 at acc ⊢
  generalize xa_zi T3 (ci h 71) = T4 at acc ⊢
  generalize xa_upr (xa_zr R3 (ci h 71)) (ci h 64) 6 (some (ci h 71)) = R4 at acc ⊢
  refine xa_aload_n (pc := 36) dX4_init_36 rfl ?_
  refine xa_bipush (pc := 37) (v := 32) dX4_init_37 (by decide) ?_
  refine xa_newI (pc := 39) (ci h 72) 32 dX4_init_39 (by decide) (by decide) (ci_kd h 72 (by decide)) (ci_ln h 72 (by decide)) (by decide) (acc_n acc (hnew 72 (by decide) (by decide)) (by simp [ci])) (hnew 72 (by decide) (by decide)) (by simp [ci]) (by simp [ci]) (acc_fr acc (hnew 72 (by decide) (by decide)) (by simp [ci])) (by decide) (by decide) ?_
  refine xa_putRF (pc := 41) (some (ci h 72)) 4 7 lpX4_24 dX4_init_41 rfl (List.mem_append_left _ (acc_m acc hm)) (kd_64 _) rfl (fun _ => by cases ‹Option Nat› <;> rfl) (fun _ => by cases ‹Option Nat› <;> rfl) ?_
  replace acc := acc_arr (a := (ci h 72)) (f := 7) acc (by simp [ci]) (by simp [ci]) (by rw [cnr_ci (by decide)]; rfl) (fun k => cnr_no [] (by decide) (by decide) List.not_mem_nil)
  generalize L4 ++ [(ci h 72)] = L5 at acc ⊢
  generalize xa_zi T4 (ci h 72) = T5 at acc ⊢
  generalize xa_upr (xa_zr R4 (ci h 72)) (ci h 64) 7 (some (ci h 72)) = R5 at acc ⊢
  refine xa_aload_n (pc := 44) dX4_init_44 rfl ?_
  refine xa_bipush (pc := 45) (v := 32) dX4_init_45 (by decide) ?_
  refine xa_newI (pc := 47) (ci h 74) 32 dX4_init_47 (by decide) (by decide) (ci_kd h 74 (by decide)) (ci_ln h 74 (by decide)) (by decide) (acc_n acc (hnew 74 (by decide) (by decide)) (by simp [ci])) (hnew 74 (by decide) (by decide)) (by simp [ci]) (by simp [ci]) (acc_fr acc (hnew 74 (by decide) (by decide)) (by simp [ci])) (by decide) (by decide) ?_
  refine xa_putRF (pc := 49) (some (ci h 74)) 4 9 lpX4_27 dX4_init_49 rfl (List.mem_append_left _ (acc_m acc hm)) (kd_64 _) rfl (fun _ => by cases ‹Option Nat› <;> rfl) (fun _ => by cases ‹Option Nat› <;> rfl) ?_
  replace acc := acc_arr (a := (ci h 74)) (f := 9) acc (by simp [ci]) (by simp [ci]) (by rw [cnr_ci (by decide)]; rfl) (fun k => cnr_no [] (by decide) (by decide) List.not_mem_nil)
  generalize L5 ++ [(ci h 74)] = L6 at acc ⊢
  generalize xa_zi T5 (ci h 74) = T6 at acc ⊢
  generalize xa_upr (xa_zr R5 (ci h 74)) (ci h 64) 9 (some (ci h 74)) = R6 at acc ⊢
  refine xa_aload_n (pc := 52) dX4_init_52 rfl ?_
  refine xa_bipush (pc := 53) (v := 32) dX4_init_53 (by decide) ?_
  refine xa_newI (pc := 55) (ci h 76) 32 dX4_init_55 (by decide) (by decide) (ci_kd h 76 (by decide)) (ci_ln h 76 (by decide)) (by decide) (acc_n acc (hnew 76 (by decide) (by decide)) (by simp [ci])) (hnew 76 (by decide) (by decide)) (by simp [ci]) (by simp [ci]) (acc_fr acc (hnew 76 (by decide) (by decide)) (by simp [ci])) (by decide) (by decide) ?_
  refine xa_putRF (pc := 57) (some (ci h 76)) 4 11 lpX4_30 dX4_init_57 rfl (List.mem_append_left _ (acc_m acc hm)) (kd_64 _) rfl (fun _ => by cases ‹Option Nat› <;> rfl) (fun _ => by cases ‹Option Nat› <;> rfl) ?_
  replace acc := acc_arr (a := (ci h 76)) (f := 11) acc (by simp [ci]) (by simp [ci]) (by rw [cnr_ci (by decide)]; rfl) (fun k => cnr_no [] (by decide) (by decide) List.not_mem_nil)
  generalize L6 ++ [(ci h 76)] = L7 at acc ⊢
  generalize xa_zi T6 (ci h 76) = T7 at acc ⊢
  generalize xa_upr (xa_zr R6 (ci h 76)) (ci h 64) 11 (some (ci h 76)) = R7 at acc ⊢
  refine xa_aload_n (pc := 60) dX4_init_60 rfl ?_
  refine xa_bipush (pc := 61) (v := 32) dX4_init_61 (by decide) ?_
  refine xa_newI (pc := 63) (ci h 77) 32 dX4_init_63 (by decide) (by decide) (ci_kd h 77 (by decide)) (ci_ln h 77 (by decide)) (by decide) (acc_n acc (hnew 77 (by decide) (by decide)) (by simp [ci])) (hnew 77 (by decide) (by decide)) (by simp [ci]) (by simp [ci]) (acc_fr acc (hnew 77 (by decide) (by decide)) (by simp [ci])) (by decide) (by decide) ?_
  refine xa_putRF (pc := 65) (some (ci h 77)) 4 12 lpX4_33 dX4_init_65 rfl (List.mem_append_left _ (acc_m acc hm)) (kd_64 _) rfl (fun _ => by cases ‹Option Nat› <;> rfl) (fun _ => by cases ‹Option Nat› <;> rfl) ?_
  replace acc := acc_arr (a := (ci h 77)) (f := 12) acc (by simp [ci]) (by simp [ci]) (by rw [cnr_ci (by decide)]; rfl) (fun k => cnr_no [] (by decide) (by decide) List.not_mem_nil)
  generalize L7 ++ [(ci h 77)] = L8 at acc ⊢
  generalize xa_zi T7 (ci h 77) = T8 at acc ⊢
  generalize xa_upr (xa_zr R7 (ci h 77)) (ci h 64) 12 (some (ci h 77)) = R8 at acc ⊢
  refine xa_aload_n (pc := 68) dX4_init_68 rfl ?_
  refine xa_bipush (pc := 69) (v := 32) dX4_init_69 (by decide) ?_
  refine xa_newI (pc := 71) (ci h 78) 32 dX4_init_71 (by decide) (by decide) (ci_kd h 78 (by decide)) (ci_ln h 78 (by decide)) (by decide) (acc_n acc (hnew 78 (by decide) (by decide)) (by simp [ci])) (hnew 78 (by decide) (by decide)) (by simp [ci]) (by simp [ci]) (acc_fr acc (hnew 78 (by decide) (by decide)) (by simp [ci])) (by decide) (by decide) ?_
  refine xa_putRF (pc := 73) (some (ci h 78)) 4 13 lpX4_36 dX4_init_73 rfl (List.mem_append_left _ (acc_m acc hm)) (kd_64 _) rfl (fun _ => by cases ‹Option Nat› <;> rfl) (fun _ => by cases ‹Option Nat› <;> rfl) ?_
  replace acc := acc_arr (a := (ci h 78)) (f := 13) acc (by simp [ci]) (by simp [ci]) (by rw [cnr_ci (by decide)]; rfl) (fun k => cnr_no [] (by decide) (by decide) List.not_mem_nil)
  generalize L8 ++ [(ci h 78)] = L9 at acc ⊢
  generalize xa_zi T8 (ci h 78) = T9 at acc ⊢
  generalize xa_upr (xa_zr R8 (ci h 78)) (ci h 64) 13 (some (ci h 78)) = R9 at acc ⊢
  refine xa_aload_n (pc := 76) dX4_init_76 rfl ?_
  refine xa_bipush (pc := 77) (v := 32) dX4_init_77 (by decide) ?_
  refine xa_newI (pc := 79) (ci h 79) 32 dX4_init_79 (by decide) (by decide) (ci_kd h 79 (by decide)) (ci_ln h 79 (by decide)) (by decide) (acc_n acc (hnew 79 (by decide) (by decide)) (by simp [ci])) (hnew 79 (by decide) (by decide)) (by simp [ci]) (by simp [ci]) (acc_fr acc (hnew 79 (by decide) (by decide)) (by simp [ci])) (by decide) (by decide) ?_
  refine xa_putRF (pc := 81) (some (ci h 79)) 4 14 lpX4_39 dX4_init_81 rfl (List.mem_append_left _ (acc_m acc hm)) (kd_64 _) rfl (fun _ => by cases ‹Option Nat› <;> rfl) (fun _ => by cases ‹Option Nat› <;> rfl) ?_
  replace acc := acc_arr (a := (ci h 79)) (f := 14) acc (by simp [ci]) (by simp [ci]) (by rw [cnr_ci (by decide)]; rfl) (fun k => cnr_no [] (by decide) (by decide) List.not_mem_nil)
  generalize L9 ++ [(ci h 79)] = L10 at acc ⊢
  generalize xa_zi T9 (ci h 79) = T10 at acc ⊢
  generalize xa_upr (xa_zr R9 (ci h 79)) (ci h 64) 14 (some (ci h 79)) = R10 at acc ⊢
  exact xa_vretA (pc := 84) dX4_init_84 rfl ⟨rfl, acc⟩
set_option maxHeartbeats 4000000 in
theorem cx_i3 (E : xa_EV) {L : List Nat} {T : xa_AH} {R : xa_AR} {h : Nat} (net fr to rk : Int32) (hm : (ci h 0) ∈ L) (h0 : ∀ k, R (ci h 0) k = none) (hcl : ∀ b k x, R b k = some x → x ∈ L) (hnew : ∀ r, 1 ≤ r → r ≤ 31 → ¬ ci h r ∈ L) : xa_CtA E mX3_init [.ref (ci h 0), .int (nI h), .int net, .int fr, .int to, .int rk] L T R (PN cnr [(ci h 1), (ci h 2), (ci h 3), (ci h 4), (ci h 5), (ci h 6), (ci h 7), (ci h 8), (ci h 9), (ci h 10), (ci h 16), (ci h 19), (ci h 20), (ci h 21), (ci h 23), (ci h 24), (ci h 26), (ci h 28), (ci h 29), (ci h 30), (ci h 31)] [4, 5, 6, 15] (ci h 0) L (xa_up (xa_up (xa_up (xa_up (xa_up (xa_up T (ci h 0) 8 2) (ci h 0) 0 (nI h)) (ci h 0) 7 net) (ci h 0) 1 fr) (ci h 0) 2 to) (ci h 0) 3 rk) R) := by
  refine xa_CtA.of [some (.ref (ci h 0)), some (.int (nI h)), some (.int net), some (.int fr), some (.int to), some (.int rk)] rfl (Nat.le_of_ble_eq_true rfl) (by simp [Value.category]) rfl ?_
  have acc := acc_0 (c := cnr) (T := T) h0 hcl
  refine xa_aload_n (pc := 0) dX3_init_0 rfl ?_
  refine xa_objInit (pc := 1) dX3_init_1 loX3_3 lo_im lo_cd (by decide) (by decide) ?_
  refine xa_aload_n (pc := 4) dX3_init_4 rfl ?_
  refine xa_new (pc := 5) (ci h 1) 6 lnX3_9 dX3_init_5 (ci_kd h 1 (by decide)) (acc_n acc (hnew 1 (by decide) (by decide)) (by simp [ci])) (hnew 1 (by decide) (by decide)) (by simp [ci]) (by simp [ci]) (acc_fr acc (hnew 1 (by decide) (by decide)) (by simp [ci])) (by decide) (by decide) ?_
  refine xa_dup (pc := 8) dX3_init_8 rfl ?_
  refine xa_callINA (pc := 9) lcX3_11 dX3_init_9 (cx_i6 E (List.mem_append_right _ List.mem_cons_self) zr_0 (zr_cl acc.2.2.2.2.2) (fun r h1 h2 => acc_new acc (hnew r (by omega) (by omega)) (by simp [ci] <;> omega) (by simp [ci] <;> omega))) rfl rfl (by decide) (Nat.le_of_ble_eq_true rfl) (by decide) (by decide) (fun a ha => List.mem_append_left _ (acc_m acc ha)) (fun a ha => by simp at ha; rcases ha with e | e <;> rw [e] <;> first | exact List.mem_append_right _ List.mem_cons_self | exact List.mem_append_left _ (acc_m acc hm)) (fun a ha => by simp at ha; rw [ha]; exact List.mem_append_left _ (acc_m acc hm)) ?_
  rintro _ L1 T1 Q1 ⟨rfl, g⟩
  refine xa_putRF (pc := 12) (some (ci h 1)) 3 4 lpX3_12 dX3_init_12 rfl (acc_m g (List.mem_append_left _ (acc_m acc hm))) (kd_0 _) rfl (fun _ => by cases ‹Option Nat› <;> rfl) (fun _ => by cases ‹Option Nat› <;> rfl) ?_
  replace acc := acc_obj (a := (ci h 1)) (f := 4) acc g (by simp [ci]) (by simp [ci]) (by simp [ci]) (by simp [ci]) (by rw [cnr_ci (by decide)]; rfl) (fun k hk => cnr_no [0, 1, 2, 3] (by decide) (by decide) hk)
  generalize xa_upr Q1 (ci h 0) 4 (some (ci h 1)) = R1 at acc ⊢
  refine xa_aload_n (pc := 15) dX3_init_15 rfl ?_
  refine xa_new (pc := 16) (ci h 6) 1 lnX3_18 dX3_init_16 (ci_kd h 6 (by decide)) (acc_n acc (hnew 6 (by decide) (by decide)) (by simp [ci])) (hnew 6 (by decide) (by decide)) (by simp [ci]) (by simp [ci]) (acc_fr acc (hnew 6 (by decide) (by decide)) (by simp [ci])) (by decide) (by decide) ?_
  refine xa_dup (pc := 19) dX3_init_19 rfl ?_
  refine xa_callINA (pc := 20) lcX3_20 dX3_init_20 (cx_i1 E (List.mem_append_right _ List.mem_cons_self) zr_0 (zr_cl acc.2.2.2.2.2) (fun r h1 h2 => acc_new acc (hnew r (by omega) (by omega)) (by simp [ci] <;> omega) (by simp [ci] <;> omega))) rfl rfl (by decide) (Nat.le_of_ble_eq_true rfl) (by decide) (by decide) (fun a ha => List.mem_append_left _ (acc_m acc ha)) (fun a ha => by simp at ha; rcases ha with e | e <;> rw [e] <;> first | exact List.mem_append_right _ List.mem_cons_self | exact List.mem_append_left _ (acc_m acc hm)) (fun a ha => by simp at ha; rw [ha]; exact List.mem_append_left _ (acc_m acc hm)) ?_
  rintro _ L2 T2 Q2 ⟨rfl, g⟩
  refine xa_putRF (pc := 23) (some (ci h 6)) 3 5 lpX3_21 dX3_init_23 rfl (acc_m g (List.mem_append_left _ (acc_m acc hm))) (kd_0 _) rfl (fun _ => by cases ‹Option Nat› <;> rfl) (fun _ => by cases ‹Option Nat› <;> rfl) ?_
  replace acc := acc_obj (a := (ci h 6)) (f := 5) acc g (by simp [ci]) (by simp [ci]) (by simp [ci]) (by simp [ci]) (by rw [cnr_ci (by decide)]; rfl) (fun k hk => cnr_no [0, 1] (by decide) (by decide) hk)
  generalize xa_upr Q2 (ci h 0) 5 (some (ci h 6)) = R2 at acc ⊢
  refine xa_aload_n (pc := 26) dX3_init_26 rfl ?_
  refine xa_new (pc := 27) (ci h 9) 0 lnX3_25 dX3_init_27 (ci_kd h 9 (by decide)) (acc_n acc (hnew 9 (by decide) (by decide)) (by simp [ci])) (hnew 9 (by decide) (by decide)) (by simp [ci]) (by simp [ci]) (acc_fr acc (hnew 9 (by decide) (by decide)) (by simp [ci])) (by decide) (by decide) ?_
  refine xa_dup (pc := 30) dX3_init_30 rfl ?_
  refine xa_callINA (pc := 31) lcX3_27 dX3_init_31 (cx_i0 E (List.mem_append_right _ List.mem_cons_self) zr_0 (zr_cl acc.2.2.2.2.2) (fun r h1 h2 => acc_new acc (hnew r (by omega) (by omega)) (by simp [ci] <;> omega) (by simp [ci] <;> omega))) rfl rfl (by decide) (Nat.le_of_ble_eq_true rfl) (by decide) (by decide) (fun a ha => List.mem_append_left _ (acc_m acc ha)) (fun a ha => by simp at ha; rcases ha with e | e <;> rw [e] <;> first | exact List.mem_append_right _ List.mem_cons_self | exact List.mem_append_left _ (acc_m acc hm)) (fun a ha => by simp at ha; rw [ha]; exact List.mem_append_left _ (acc_m acc hm)) ?_
  rintro _ L3 T3 Q3 ⟨rfl, g⟩
  refine xa_putRF (pc := 34) (some (ci h 9)) 3 6 lpX3_28 dX3_init_34 rfl (acc_m g (List.mem_append_left _ (acc_m acc hm))) (kd_0 _) rfl (fun _ => by cases ‹Option Nat› <;> rfl) (fun _ => by cases ‹Option Nat› <;> rfl) ?_
  replace acc := acc_obj (a := (ci h 9)) (f := 6) acc g (by simp [ci]) (by simp [ci]) (by simp [ci]) (by simp [ci]) (by rw [cnr_ci (by decide)]; rfl) (fun k hk => cnr_no [0] (by decide) (by decide) hk)
  generalize xa_upr Q3 (ci h 0) 6 (some (ci h 9)) = R3 at acc ⊢
  refine xa_aload_n (pc := 37) dX3_init_37 rfl ?_
  refine xa_iconst (pc := 38) (v := 2) dX3_init_38 (by decide) ?_
  refine xa_putI (pc := 39) 3 8 lpX3_32 dX3_init_39 (acc_m acc hm) (kd_0 _) rfl rfl rfl ?_
  replace acc := acc_up acc (by simp [ci]) (j := 8) (v := 2)
  generalize xa_up T3 (ci h 0) 8 2 = T4 at acc ⊢
  refine xa_aload_n (pc := 42) dX3_init_42 rfl ?_
  refine xa_new (pc := 43) (ci h 16) 4 lnX3_36 dX3_init_43 (ci_kd h 16 (by decide)) (acc_n acc (hnew 16 (by decide) (by decide)) (by simp [ci])) (hnew 16 (by decide) (by decide)) (by simp [ci]) (by simp [ci]) (acc_fr acc (hnew 16 (by decide) (by decide)) (by simp [ci])) (by decide) (by decide) ?_
  refine xa_dup (pc := 46) dX3_init_46 rfl ?_
  refine xa_callINA (pc := 47) lcX3_38 dX3_init_47 (cx_i4_16 E (List.mem_append_right _ List.mem_cons_self) zr_0 (zr_cl acc.2.2.2.2.2) (fun r h1 h2 => acc_new acc (hnew r (by omega) (by omega)) (by simp [ci] <;> omega) (by simp [ci] <;> omega))) rfl rfl (by decide) (Nat.le_of_ble_eq_true rfl) (by decide) (by decide) (fun a ha => List.mem_append_left _ (acc_m acc ha)) (fun a ha => by simp at ha; rcases ha with e | e <;> rw [e] <;> first | exact List.mem_append_right _ List.mem_cons_self | exact List.mem_append_left _ (acc_m acc hm)) (fun a ha => by simp at ha; rw [ha]; exact List.mem_append_left _ (acc_m acc hm)) ?_
  rintro _ L5 T5 Q5 ⟨rfl, g⟩
  refine xa_putR (pc := 50) (some (ci h 16)) 3 15 lpX3_39 dX3_init_50 (acc_m g (List.mem_append_left _ (acc_m acc hm))) (kd_0 _) rfl (fun _ => by cases ‹Option Nat› <;> rfl) (fun _ => by cases ‹Option Nat› <;> rfl) ?_
  replace acc := acc_obj (a := (ci h 16)) (f := 15) acc g (by simp [ci]) (by simp [ci]) (by simp [ci]) (by simp [ci]) (by rw [cnr_ci (by decide)]; rfl) (fun k hk => cnr_no [2, 3, 4, 6, 7, 9, 11, 12, 13, 14] (by decide) (by decide) hk)
  generalize xa_upr Q5 (ci h 0) 15 (some (ci h 16)) = R5 at acc ⊢
  refine xa_aload_n (pc := 53) dX3_init_53 rfl ?_
  refine xa_iload_n (pc := 54) dX3_init_54 rfl ?_
  refine xa_putIF (pc := 55) 3 0 lpX3_43 dX3_init_55 rfl (acc_m acc hm) (kd_0 _) rfl rfl rfl ?_
  replace acc := acc_up acc (by simp [ci]) (j := 0) (v := (nI h))
  generalize xa_up T5 (ci h 0) 0 (nI h) = T6 at acc ⊢
  refine xa_aload_n (pc := 58) dX3_init_58 rfl ?_
  refine xa_iload_n (pc := 59) dX3_init_59 rfl ?_
  refine xa_putI (pc := 60) 3 7 lpX3_46 dX3_init_60 (acc_m acc hm) (kd_0 _) rfl rfl rfl ?_
  replace acc := acc_up acc (by simp [ci]) (j := 7) (v := net)
  generalize xa_up T6 (ci h 0) 7 net = T7 at acc ⊢
  refine xa_aload_n (pc := 63) dX3_init_63 rfl ?_
  refine xa_iload_n (pc := 64) dX3_init_64 rfl ?_
  refine xa_putIF (pc := 65) 3 1 lpX3_49 dX3_init_65 rfl (acc_m acc hm) (kd_0 _) rfl rfl rfl ?_
  replace acc := acc_up acc (by simp [ci]) (j := 1) (v := fr)
  generalize xa_up T7 (ci h 0) 1 fr = T8 at acc ⊢
  refine xa_aload_n (pc := 68) dX3_init_68 rfl ?_
  refine xa_iload (pc := 69) dX3_init_69 rfl ?_
  refine xa_putIF (pc := 71) 3 2 lpX3_52 dX3_init_71 rfl (acc_m acc hm) (kd_0 _) rfl rfl rfl ?_
  replace acc := acc_up acc (by simp [ci]) (j := 2) (v := to)
  generalize xa_up T8 (ci h 0) 2 to = T9 at acc ⊢
  refine xa_aload_n (pc := 74) dX3_init_74 rfl ?_
  refine xa_iload (pc := 75) dX3_init_75 rfl ?_
  refine xa_putIF (pc := 77) 3 3 lpX3_55 dX3_init_77 rfl (acc_m acc hm) (kd_0 _) rfl rfl rfl ?_
  replace acc := acc_up acc (by simp [ci]) (j := 3) (v := rk)
  generalize xa_up T9 (ci h 0) 3 rk = T10 at acc ⊢
  exact xa_vretA (pc := 80) dX3_init_80 rfl ⟨rfl, acc⟩
set_option maxHeartbeats 4000000 in
theorem cx_i2 (E : xa_EV) {L : List Nat} {T : xa_AH} {R : xa_AR} {h : Nat} (net kd : Int32) (hm : (ci h 80) ∈ L) (h0 : ∀ k, R (ci h 80) k = none) (hcl : ∀ b k x, R b k = some x → x ∈ L) (hnew : ∀ r, 32 ≤ r → r ≤ 79 → ¬ ci h r ∈ L) : xa_CtA E mX2_init [.ref (ci h 80), .int net, .int kd] L T R (PN cnr [(ci h 32), (ci h 35), (ci h 36), (ci h 37), (ci h 39), (ci h 40), (ci h 42), (ci h 44), (ci h 45), (ci h 46), (ci h 47), (ci h 48), (ci h 51), (ci h 52), (ci h 53), (ci h 55), (ci h 56), (ci h 58), (ci h 60), (ci h 61), (ci h 62), (ci h 63), (ci h 64), (ci h 67), (ci h 68), (ci h 69), (ci h 71), (ci h 72), (ci h 74), (ci h 76), (ci h 77), (ci h 78), (ci h 79)] [2, 3, 4] (ci h 80) L (xa_up (xa_up T (ci h 80) 1 net) (ci h 80) 0 kd) R) := by
  refine xa_CtA.of [some (.ref (ci h 80)), some (.int net), some (.int kd)] rfl (Nat.le_of_ble_eq_true rfl) (by simp [Value.category]) rfl ?_
  have acc := acc_0 (c := cnr) (T := T) h0 hcl
  refine xa_aload_n (pc := 0) dX2_init_0 rfl ?_
  refine xa_objInit (pc := 1) dX2_init_1 loX2_1 lo_im lo_cd (by decide) (by decide) ?_
  refine xa_aload_n (pc := 4) dX2_init_4 rfl ?_
  refine xa_new (pc := 5) (ci h 32) 4 lnX2_7 dX2_init_5 (ci_kd h 32 (by decide)) (acc_n acc (hnew 32 (by decide) (by decide)) (by simp [ci])) (hnew 32 (by decide) (by decide)) (by simp [ci]) (by simp [ci]) (acc_fr acc (hnew 32 (by decide) (by decide)) (by simp [ci])) (by decide) (by decide) ?_
  refine xa_dup (pc := 8) dX2_init_8 rfl ?_
  refine xa_callINA (pc := 9) lcX2_9 dX2_init_9 (cx_i4_32 E (List.mem_append_right _ List.mem_cons_self) zr_0 (zr_cl acc.2.2.2.2.2) (fun r h1 h2 => acc_new acc (hnew r (by omega) (by omega)) (by simp [ci] <;> omega) (by simp [ci] <;> omega))) rfl rfl (by decide) (Nat.le_of_ble_eq_true rfl) (by decide) (by decide) (fun a ha => List.mem_append_left _ (acc_m acc ha)) (fun a ha => by simp at ha; rcases ha with e | e <;> rw [e] <;> first | exact List.mem_append_right _ List.mem_cons_self | exact List.mem_append_left _ (acc_m acc hm)) (fun a ha => by simp at ha; rw [ha]; exact List.mem_append_left _ (acc_m acc hm)) ?_
  rintro _ L1 T1 Q1 ⟨rfl, g⟩
  refine xa_putR (pc := 12) (some (ci h 32)) 2 2 lpX2_10 dX2_init_12 (acc_m g (List.mem_append_left _ (acc_m acc hm))) (kd_80 _) rfl (fun _ => by cases ‹Option Nat› <;> rfl) (fun _ => by cases ‹Option Nat› <;> rfl) ?_
  replace acc := acc_obj (a := (ci h 32)) (f := 2) acc g (by simp [ci]) (by simp [ci]) (by simp [ci]) (by simp [ci]) (by rw [cnr_ci (by decide)]; rfl) (fun k hk => cnr_no [2, 3, 4, 6, 7, 9, 11, 12, 13, 14] (by decide) (by decide) hk)
  generalize xa_upr Q1 (ci h 80) 2 (some (ci h 32)) = R1 at acc ⊢
  refine xa_aload_n (pc := 15) dX2_init_15 rfl ?_
  refine xa_new (pc := 16) (ci h 48) 4 lnX2_7 dX2_init_16 (ci_kd h 48 (by decide)) (acc_n acc (hnew 48 (by decide) (by decide)) (by simp [ci])) (hnew 48 (by decide) (by decide)) (by simp [ci]) (by simp [ci]) (acc_fr acc (hnew 48 (by decide) (by decide)) (by simp [ci])) (by decide) (by decide) ?_
  refine xa_dup (pc := 19) dX2_init_19 rfl ?_
  refine xa_callINA (pc := 20) lcX2_9 dX2_init_20 (cx_i4_48 E (List.mem_append_right _ List.mem_cons_self) zr_0 (zr_cl acc.2.2.2.2.2) (fun r h1 h2 => acc_new acc (hnew r (by omega) (by omega)) (by simp [ci] <;> omega) (by simp [ci] <;> omega))) rfl rfl (by decide) (Nat.le_of_ble_eq_true rfl) (by decide) (by decide) (fun a ha => List.mem_append_left _ (acc_m acc ha)) (fun a ha => by simp at ha; rcases ha with e | e <;> rw [e] <;> first | exact List.mem_append_right _ List.mem_cons_self | exact List.mem_append_left _ (acc_m acc hm)) (fun a ha => by simp at ha; rw [ha]; exact List.mem_append_left _ (acc_m acc hm)) ?_
  rintro _ L2 T2 Q2 ⟨rfl, g⟩
  refine xa_putR (pc := 23) (some (ci h 48)) 2 3 lpX2_16 dX2_init_23 (acc_m g (List.mem_append_left _ (acc_m acc hm))) (kd_80 _) rfl (fun _ => by cases ‹Option Nat› <;> rfl) (fun _ => by cases ‹Option Nat› <;> rfl) ?_
  replace acc := acc_obj (a := (ci h 48)) (f := 3) acc g (by simp [ci]) (by simp [ci]) (by simp [ci]) (by simp [ci]) (by rw [cnr_ci (by decide)]; rfl) (fun k hk => cnr_no [2, 3, 4, 6, 7, 9, 11, 12, 13, 14] (by decide) (by decide) hk)
  generalize xa_upr Q2 (ci h 80) 3 (some (ci h 48)) = R2 at acc ⊢
  refine xa_aload_n (pc := 26) dX2_init_26 rfl ?_
  refine xa_new (pc := 27) (ci h 64) 4 lnX2_7 dX2_init_27 (ci_kd h 64 (by decide)) (acc_n acc (hnew 64 (by decide) (by decide)) (by simp [ci])) (hnew 64 (by decide) (by decide)) (by simp [ci]) (by simp [ci]) (acc_fr acc (hnew 64 (by decide) (by decide)) (by simp [ci])) (by decide) (by decide) ?_
  refine xa_dup (pc := 30) dX2_init_30 rfl ?_
  refine xa_callINA (pc := 31) lcX2_9 dX2_init_31 (cx_i4_64 E (List.mem_append_right _ List.mem_cons_self) zr_0 (zr_cl acc.2.2.2.2.2) (fun r h1 h2 => acc_new acc (hnew r (by omega) (by omega)) (by simp [ci] <;> omega) (by simp [ci] <;> omega))) rfl rfl (by decide) (Nat.le_of_ble_eq_true rfl) (by decide) (by decide) (fun a ha => List.mem_append_left _ (acc_m acc ha)) (fun a ha => by simp at ha; rcases ha with e | e <;> rw [e] <;> first | exact List.mem_append_right _ List.mem_cons_self | exact List.mem_append_left _ (acc_m acc hm)) (fun a ha => by simp at ha; rw [ha]; exact List.mem_append_left _ (acc_m acc hm)) ?_
  rintro _ L3 T3 Q3 ⟨rfl, g⟩
  refine xa_putR (pc := 34) (some (ci h 64)) 2 4 lpX2_19 dX2_init_34 (acc_m g (List.mem_append_left _ (acc_m acc hm))) (kd_80 _) rfl (fun _ => by cases ‹Option Nat› <;> rfl) (fun _ => by cases ‹Option Nat› <;> rfl) ?_
  replace acc := acc_obj (a := (ci h 64)) (f := 4) acc g (by simp [ci]) (by simp [ci]) (by simp [ci]) (by simp [ci]) (by rw [cnr_ci (by decide)]; rfl) (fun k hk => cnr_no [2, 3, 4, 6, 7, 9, 11, 12, 13, 14] (by decide) (by decide) hk)
  generalize xa_upr Q3 (ci h 80) 4 (some (ci h 64)) = R3 at acc ⊢
  refine xa_aload_n (pc := 37) dX2_init_37 rfl ?_
  refine xa_iload_n (pc := 38) dX2_init_38 rfl ?_
  refine xa_putI (pc := 39) 2 1 lpX2_22 dX2_init_39 (acc_m acc hm) (kd_80 _) rfl rfl rfl ?_
  replace acc := acc_up acc (by simp [ci]) (j := 1) (v := net)
  generalize xa_up T3 (ci h 80) 1 net = T4 at acc ⊢
  refine xa_aload_n (pc := 42) dX2_init_42 rfl ?_
  refine xa_iload_n (pc := 43) dX2_init_43 rfl ?_
  refine xa_putIF (pc := 44) 2 0 lpX2_26 dX2_init_44 rfl (acc_m acc hm) (kd_80 _) rfl rfl rfl ?_
  replace acc := acc_up acc (by simp [ci]) (j := 0) (v := kd)
  generalize xa_up T4 (ci h 80) 0 kd = T5 at acc ⊢
  exact xa_vretA (pc := 47) dX2_init_47 rfl ⟨rfl, acc⟩
