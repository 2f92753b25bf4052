def svT (T : xa_AH) (s : Nat) (num kd nm mk lf : Int32) (fb : Bool) : xa_AH := (xa_up (xa_up (xa_up (xa_up (xa_up (xa_up (xa_up (xa_up T (ci s 128) 7 1) (ci s 128) 8 3) (ci s 128) 0 num) (ci s 128) 2 kd) (ci s 128) 5 nm) (ci s 128) 6 mk) (ci s 128) 3 lf) (ci s 128) 4 (xa_b fb))
set_option maxHeartbeats 4000000 in
theorem cx_i5 (E : xa_EV) {L : List Nat} {T : xa_AH} {R : xa_AR} {s h : Nat} (hm : ci s 128 ∈ L) (hmh : ci h 0 ∈ L) (num kd nm mk lf : Int32) (fb : Bool) : xa_Ct E mX5_init [.ref (ci s 128), .int num, .ref (ci h 0), .int kd, .int nm, .int mk, .int lf, .int (xa_b fb)] L T R (xa_pV (svT T s num kd nm mk lf fb) (xa_upr R (ci s 128) 1 (some (ci h 0)))) := by
  refine xa_Ct.of [some (.ref (ci s 128)), some (.int num), some (.ref (ci h 0)), some (.int kd), some (.int nm), some (.int mk), some (.int lf), some (.int (xa_b fb))] rfl (Nat.le_of_ble_eq_true rfl) (by simp [Value.category]) rfl ?_
  refine xa_aload_n (pc := 0) dX5_init_0 rfl ?_
  refine xa_objInit (pc := 1) dX5_init_1 loX5_3 lo_im lo_cd (by decide) (by decide) ?_
  refine xa_aload_n (pc := 4) dX5_init_4 rfl ?_
  refine xa_iconst (pc := 5) (v := 1) dX5_init_5 (by decide) ?_
  refine xa_putI (pc := 6) 5 7 lpX5_9 dX5_init_6 hm (kd_128 _) rfl rfl rfl ?_
  refine xa_aload_n (pc := 9) dX5_init_9 rfl ?_
  refine xa_iconst (pc := 10) (v := 3) dX5_init_10 (by decide) ?_
  refine xa_putI (pc := 11) 5 8 lpX5_15 dX5_init_11 hm (kd_128 _) rfl rfl rfl ?_
  refine xa_aload_n (pc := 14) dX5_init_14 rfl ?_
  refine xa_iload_n (pc := 15) dX5_init_15 rfl ?_
  refine xa_putIF (pc := 16) 5 0 lpX5_18 dX5_init_16 rfl hm (kd_128 _) rfl rfl rfl ?_
  refine xa_aload_n (pc := 19) dX5_init_19 rfl ?_
  refine xa_aload_n (pc := 20) dX5_init_20 rfl ?_
  refine xa_putRF (pc := 21) (some (ci h 0)) 5 1 lpX5_21 dX5_init_21 rfl hm (kd_128 _) rfl (fun _ => by cases ‹Option Nat› <;> rfl) (fun _ => by cases ‹Option Nat› <;> rfl) ?_
  refine xa_aload_n (pc := 24) dX5_init_24 rfl ?_
  refine xa_iload_n (pc := 25) dX5_init_25 rfl ?_
  refine xa_putIF (pc := 26) 5 2 lpX5_25 dX5_init_26 rfl hm (kd_128 _) rfl rfl rfl ?_
  refine xa_aload_n (pc := 29) dX5_init_29 rfl ?_
  refine xa_iload (pc := 30) dX5_init_30 rfl ?_
  refine xa_putI (pc := 32) 5 5 lpX5_28 dX5_init_32 hm (kd_128 _) rfl rfl rfl ?_
  refine xa_aload_n (pc := 35) dX5_init_35 rfl ?_
  refine xa_iload (pc := 36) dX5_init_36 rfl ?_
  refine xa_putI (pc := 38) 5 6 lpX5_31 dX5_init_38 hm (kd_128 _) rfl rfl rfl ?_
  refine xa_aload_n (pc := 41) dX5_init_41 rfl ?_
  refine xa_iload (pc := 42) dX5_init_42 rfl ?_
  refine xa_putIF (pc := 44) 5 3 lpX5_34 dX5_init_44 rfl hm (kd_128 _) rfl rfl rfl ?_
  refine xa_aload_n (pc := 47) dX5_init_47 rfl ?_
  refine xa_iload (pc := 48) dX5_init_48 rfl ?_
  refine xa_putIF (pc := 50) 5 4 lpX5_37 dX5_init_50 rfl hm (kd_128 _) rfl (xa_b_nar _) (xa_b_fit _) ?_
  exact xa_vret dX5_init_53 rfl ⟨rfl, rfl, rfl⟩
set_option maxHeartbeats 4000000 in
theorem cx_i7 (E : xa_EV) {L : List Nat} {T : xa_AH} {R : xa_AR} (hm : ci 0 129 ∈ L) (h0 : ∀ k, R (ci 0 129) k = none) (hcl : ∀ b k x, R b k = some x → x ∈ L) (hnew : ∀ r, 126 ≤ r → r ≤ 127 → ¬ ci 0 r ∈ L) : xa_CtA E mX7_init [.ref (ci 0 129)] L T R (PN cnr [(ci 0 126), (ci 0 127)] [0, 1] (ci 0 129) L T R) := by
  refine xa_CtA.of [some (.ref (ci 0 129))] rfl (Nat.le_of_ble_eq_true rfl) (by simp [Value.category]) rfl ?_
  have acc := acc_0 (c := cnr) (T := T) h0 hcl
  refine xa_aload_n (pc := 0) dX7_init_0 rfl ?_
  refine xa_objInit (pc := 1) dX7_init_1 loX7_1 lo_im lo_cd (by decide) (by decide) ?_
  refine xa_aload_n (pc := 4) dX7_init_4 rfl ?_
  refine xa_bipush (pc := 5) (v := 12) dX7_init_5 (by decide) ?_
  refine xa_newref (pc := 7) (ci 0 126) 11 2 llX7_9 (fun U hK => hK.2.2.1) (fun _ => rfl) (kd_126 _) (by decide) dX7_init_7 (by decide) (by decide) (by decide) (acc_n acc (hnew 126 (by decide) (by decide)) (by simp [ci])) (hnew 126 (by decide) (by decide)) (by simp [ci]) (by simp [ci]) (acc_fr acc (hnew 126 (by decide) (by decide)) (by simp [ci])) (by decide) (by decide) ?_
  refine xa_putRF (pc := 10) (some (ci 0 126)) 7 0 lpX7_11 dX7_init_10 rfl (List.mem_append_left _ (acc_m acc hm)) (kd_129 _) rfl (fun _ => by cases ‹Option Nat› <;> rfl) (fun _ => by cases ‹Option Nat› <;> rfl) ?_
  replace acc := acc_arr (a := (ci 0 126)) (f := 0) acc (by simp [ci]) (by simp [ci]) (by rw [cnr_ci (by decide)]; rfl) (fun k => cnr_no [] (by decide) (by decide) List.not_mem_nil)
  generalize L ++ [(ci 0 126)] = L1 at acc ⊢
  generalize xa_zi T (ci 0 126) = T1 at acc ⊢
  generalize xa_upr (xa_zr R (ci 0 126)) (ci 0 129) 0 (some (ci 0 126)) = R1 at acc ⊢
  refine xa_aload_n (pc := 13) dX7_init_13 rfl ?_
  refine xa_bipush (pc := 14) (v := 32) dX7_init_14 (by decide) ?_
  refine xa_newref (pc := 16) (ci 0 127) 12 3 llX7_15 (fun U hK => hK.2.2.2) (fun _ => rfl) (kd_127 _) (by decide) dX7_init_16 (by decide) (by decide) (by decide) (acc_n acc (hnew 127 (by decide) (by decide)) (by simp [ci])) (hnew 127 (by decide) (by decide)) (by simp [ci]) (by simp [ci]) (acc_fr acc (hnew 127 (by decide) (by decide)) (by simp [ci])) (by decide) (by decide) ?_
  refine xa_putRF (pc := 19) (some (ci 0 127)) 7 1 lpX7_17 dX7_init_19 rfl (List.mem_append_left _ (acc_m acc hm)) (kd_129 _) rfl (fun _ => by cases ‹Option Nat› <;> rfl) (fun _ => by cases ‹Option Nat› <;> rfl) ?_
  replace acc := acc_arr (a := (ci 0 127)) (f := 1) acc (by simp [ci]) (by simp [ci]) (by rw [cnr_ci (by decide)]; rfl) (fun k => cnr_no [] (by decide) (by decide) List.not_mem_nil)
  generalize L1 ++ [(ci 0 127)] = L2 at acc ⊢
  generalize xa_zi T1 (ci 0 127) = T2 at acc ⊢
  generalize xa_upr (xa_zr R1 (ci 0 127)) (ci 0 129) 1 (some (ci 0 127)) = R2 at acc ⊢
  exact xa_vretA (pc := 22) dX7_init_22 rfl ⟨rfl, acc⟩
def m8_as : List Nat := [131, 132, 133, 134, 135, 136, 137, 138, 139, 140, 141, 142, 143, 144, 146, 147, 148, 149, 150, 151, 152, 153, 154, 155, 156, 158, 159, 160, 161, 162, 163, 164, 165, 166, 176, 177, 179, 180, 181, 182, 183, 184, 185, 186, 187, 188, 189, 190]
def m8_fs : List Nat := [0, 1, 2, 3, 4, 5, 6, 7, 8, 9, 10, 11, 12, 13, 15, 16, 17, 18, 19, 20, 21, 22, 23, 24, 25, 27, 28, 29, 30, 31, 32, 33, 34, 35, 45, 46, 48, 49, 50, 51, 52, 53, 54, 55, 56, 57, 58, 59]
def m8_fill (n : Nat) (T : xa_AH) : xa_AH := xa_lp (fun k S => xa_up S 163 k (-1)) n T
def PN8 (L : List Nat) (T : xa_AH) (R : xa_AR) : Option Value → List Nat → xa_AH → xa_AR → Prop := fun r L1 T1 R1 => none = r ∧ ∃ T0, ACC xm_R m8_as m8_fs 130 L T R L1 T0 R1 ∧ T1 = m8_fill 384 T0
set_option maxHeartbeats 4000000 in
theorem lm_i8 (E : xa_EV) {L0 L : List Nat} {T : xa_AH} {R : xa_AR} {kc ks : Nat} {Post : Option Value → List Nat → xa_AH → xa_AR → Prop} (h1 : 130 ∈ L) (h2 : 163 ∈ L) (hr : R 130 32 = some 163) (hP : Post none L (m8_fill 384 T) R) : ∀ x, x ≤ 384 → xa_W E mX8_init (xa_ZA E mX8_init L0 Post) kc ks 411 [some (.ref 130), some (.int (nI x))] [] L (m8_fill x T) R := by
  refine xa_dn (fun x hxl ih => ?_)
  refine xa_iload_n (pc := 411) dX8_init_411 rfl ?_
  refine xa_sipush (pc := 412) (v := 384) dX8_init_412 (by decide) ?_
  refine xa_icmpN_ge (pc := 415) 431 x 384 dX8_init_415 (by decide) rfl rfl (by omega) (by omega) (fun h415 => ?_) (fun h415 => ?_)
  · have e : x = 384 := by omega
    subst e
    exact xa_vretA (pc := 431) dX8_init_431 rfl hP
  · refine xa_aload_n (pc := 418) dX8_init_418 rfl ?_
    refine xa_getA (pc := 419) 8 32 163 lfX8_101 dX8_init_419 h1 rfl rfl hr ?_
    refine xa_iload_n (pc := 422) dX8_init_422 rfl ?_
    refine xa_iconst (pc := 423) (v := (-1)) dX8_init_423 (by decide) ?_
    refine xa_iastN (pc := 424) x dX8_init_424 h2 rfl rfl (by show _ < 384; omega) (by decide) ?_
    refine xa_iinc (pc := 425) (v := nI (x + 1)) dX8_init_425 rfl (by decide) (nI_1 _) ?_
    refine xa_goto (pc := 428) (tgt := 411) dX8_init_428 (by decide) ?_
    exact ih (by omega)
set_option maxHeartbeats 4000000 in
theorem cm_init (E : xa_EV) {L : List Nat} {T : xa_AH} {R : xa_AR} (hm : 130 ∈ L) (h0 : ∀ k, R 130 k = none) (hcl : ∀ b k x, R b k = some x → x ∈ L) (hnew : ∀ r, 131 ≤ r → r ≤ 190 → ¬ r ∈ L) : xa_CtA E mX8_init [.ref 130] L T R (PN8 L T R) := by
  refine xa_CtA.of [some (.ref 130), none] rfl (Nat.le_of_ble_eq_true rfl) (by simp [Value.category]) rfl ?_
  have acc := acc_0 (c := xm_R) (T := T) h0 hcl
  refine xa_aload_n (pc := 0) dX8_init_0 rfl ?_
  refine xa_objInit (pc := 1) dX8_init_1 loX8_3 lo_im lo_cd (by decide) (by decide) ?_
  refine xa_aload_n (pc := 4) dX8_init_4 rfl ?_
  refine xa_bipush (pc := 5) (v := 12) dX8_init_5 (by decide) ?_
  refine xa_newI (pc := 7) 131 12 dX8_init_7 (by decide) (by decide) rfl rfl (by decide) (acc_n acc (hnew 131 (by decide) (by decide)) (by simp)) (hnew 131 (by decide) (by decide)) (by simp) (by simp) (acc_fr acc (hnew 131 (by decide) (by decide)) (by simp)) (by decide) (by decide) ?_
  refine xa_putRF (pc := 9) (some 131) 8 0 lpX8_9 dX8_init_9 rfl (List.mem_append_left _ (acc_m acc hm)) rfl rfl (fun _ => by cases ‹Option Nat› <;> rfl) (fun _ => by cases ‹Option Nat› <;> rfl) ?_
  replace acc := acc_arr (a := 131) (f := 0) acc (by simp) (by simp) (by decide) (fun k => by simp [xm_R])
  generalize L ++ [131] = L1 at acc ⊢
  generalize xa_zi T 131 = T1 at acc ⊢
  generalize xa_upr (xa_zr R 131) 130 0 (some 131) = R1 at acc ⊢
  refine xa_aload_n (pc := 12) dX8_init_12 rfl ?_
  refine xa_bipush (pc := 13) (v := 12) dX8_init_13 (by decide) ?_
  refine xa_newI (pc := 15) 132 12 dX8_init_15 (by decide) (by decide) rfl rfl (by decide) (acc_n acc (hnew 132 (by decide) (by decide)) (by simp)) (hnew 132 (by decide) (by decide)) (by simp) (by simp) (acc_fr acc (hnew 132 (by decide) (by decide)) (by simp)) (by decide) (by decide) ?_
  refine xa_putRF (pc := 17) (some 132) 8 1 lpX8_13 dX8_init_17 rfl (List.mem_append_left _ (acc_m acc hm)) rfl rfl (fun _ => by cases ‹Option Nat› <;> rfl) (fun _ => by cases ‹Option Nat› <;> rfl) ?_
  replace acc := acc_arr (a := 132) (f := 1) acc (by simp) (by simp) (by decide) (fun k => by simp [xm_R])
  generalize L1 ++ [132] = L2 at acc ⊢
  generalize xa_zi T1 132 = T2 at acc ⊢
  generalize xa_upr (xa_zr R1 132) 130 1 (some 132) = R2 at acc ⊢
  refine xa_aload_n (pc := 20) dX8_init_20 rfl ?_
  refine xa_bipush (pc := 21) (v := 12) dX8_init_21 (by decide) ?_
  refine xa_newI (pc := 23) 133 12 dX8_init_23 (by decide) (by decide) rfl rfl (by decide) (acc_n acc (hnew 133 (by decide) (by decide)) (by simp)) (hnew 133 (by decide) (by decide)) (by simp) (by simp) (acc_fr acc (hnew 133 (by decide) (by decide)) (by simp)) (by decide) (by decide) ?_
  refine xa_putRF (pc := 25) (some 133) 8 2 lpX8_16 dX8_init_25 rfl (List.mem_append_left _ (acc_m acc hm)) rfl rfl (fun _ => by cases ‹Option Nat› <;> rfl) (fun _ => by cases ‹Option Nat› <;> rfl) ?_
  replace acc := acc_arr (a := 133) (f := 2) acc (by simp) (by simp) (by decide) (fun k => by simp [xm_R])
  generalize L2 ++ [133] = L3 at acc ⊢
  generalize xa_zi T2 133 = T3 at acc ⊢
  generalize xa_upr (xa_zr R2 133) 130 2 (some 133) = R3 at acc ⊢
  refine xa_aload_n (pc := 28) dX8_init_28 rfl ?_
  refine xa_bipush (pc := 29) (v := 12) dX8_init_29 (by decide) ?_
  refine xa_newI (pc := 31) 134 12 dX8_init_31 (by decide) (by decide) rfl rfl (by decide) (acc_n acc (hnew 134 (by decide) (by decide)) (by simp)) (hnew 134 (by decide) (by decide)) (by simp) (by simp) (acc_fr acc (hnew 134 (by decide) (by decide)) (by simp)) (by decide) (by decide) ?_
  refine xa_putRF (pc := 33) (some 134) 8 3 lpX8_19 dX8_init_33 rfl (List.mem_append_left _ (acc_m acc hm)) rfl rfl (fun _ => by cases ‹Option Nat› <;> rfl) (fun _ => by cases ‹Option Nat› <;> rfl) ?_
  replace acc := acc_arr (a := 134) (f := 3) acc (by simp) (by simp) (by decide) (fun k => by simp [xm_R])
  generalize L3 ++ [134] = L4 at acc ⊢
  generalize xa_zi T3 134 = T4 at acc ⊢
  generalize xa_upr (xa_zr R3 134) 130 3 (some 134) = R4 at acc ⊢
  refine xa_aload_n (pc := 36) dX8_init_36 rfl ?_
  refine xa_bipush (pc := 37) (v := 12) dX8_init_37 (by decide) ?_
  refine xa_newI (pc := 39) 135 12 dX8_init_39 (by decide) (by decide) rfl rfl (by decide) (acc_n acc (hnew 135 (by decide) (by decide)) (by simp)) (hnew 135 (by decide) (by decide)) (by simp) (by simp) (acc_fr acc (hnew 135 (by decide) (by decide)) (by simp)) (by decide) (by decide) ?_
  refine xa_putRF (pc := 41) (some 135) 8 4 lpX8_22 dX8_init_41 rfl (List.mem_append_left _ (acc_m acc hm)) rfl rfl (fun _ => by cases ‹Option Nat› <;> rfl) (fun _ => by cases ‹Option Nat› <;> rfl) ?_
  replace acc := acc_arr (a := 135) (f := 4) acc (by simp) (by simp) (by decide) (fun k => by simp [xm_R])
  generalize L4 ++ [135] = L5 at acc ⊢
  generalize xa_zi T4 135 = T5 at acc ⊢
  generalize xa_upr (xa_zr R4 135) 130 4 (some 135) = R5 at acc ⊢
  refine xa_aload_n (pc := 44) dX8_init_44 rfl ?_
  refine xa_bipush (pc := 45) (v := 12) dX8_init_45 (by decide) ?_
  refine xa_newI (pc := 47) 136 12 dX8_init_47 (by decide) (by decide) rfl rfl (by decide) (acc_n acc (hnew 136 (by decide) (by decide)) (by simp)) (hnew 136 (by decide) (by decide)) (by simp) (by simp) (acc_fr acc (hnew 136 (by decide) (by decide)) (by simp)) (by decide) (by decide) ?_
  refine xa_putRF (pc := 49) (some 136) 8 5 lpX8_25 dX8_init_49 rfl (List.mem_append_left _ (acc_m acc hm)) rfl rfl (fun _ => by cases ‹Option Nat› <;> rfl) (fun _ => by cases ‹Option Nat› <;> rfl) ?_
  replace acc := acc_arr (a := 136) (f := 5) acc (by simp) (by simp) (by decide) (fun k => by simp [xm_R])
  generalize L5 ++ [136] = L6 at acc ⊢
  generalize xa_zi T5 136 = T6 at acc ⊢
  generalize xa_upr (xa_zr R5 136) 130 5 (some 136) = R6 at acc ⊢
  refine xa_aload_n (pc := 52) dX8_init_52 rfl ?_
  refine xa_bipush (pc := 53) (v := 12) dX8_init_53 (by decide) ?_
  refine xa_newZ (pc := 55) 137 12 dX8_init_55 (by decide) (by decide) rfl rfl (by decide) (acc_n acc (hnew 137 (by decide) (by decide)) (by simp)) (hnew 137 (by decide) (by decide)) (by simp) (by simp) (acc_fr acc (hnew 137 (by decide) (by decide)) (by simp)) (by decide) (by decide) ?_
  refine xa_putRF (pc := 57) (some 137) 8 6 lpX8_28 dX8_init_57 rfl (List.mem_append_left _ (acc_m acc hm)) rfl rfl (fun _ => by cases ‹Option Nat› <;> rfl) (fun _ => by cases ‹Option Nat› <;> rfl) ?_
  replace acc := acc_arr (a := 137) (f := 6) acc (by simp) (by simp) (by decide) (fun k => by simp [xm_R])
  generalize L6 ++ [137] = L7 at acc ⊢
  generalize xa_zi T6 137 = T7 at acc ⊢
  generalize xa_upr (xa_zr R6 137) 130 6 (some 137) = R7 at acc ⊢
  refine xa_aload_n (pc := 60) dX8_init_60 rfl ?_
  refine xa_bipush (pc := 61) (v := 12) dX8_init_61 (by decide) ?_
  refine xa_newZ (pc := 63) 138 12 dX8_init_63 (by decide) (by decide) rfl rfl (by decide) (acc_n acc (hnew 138 (by decide) (by decide)) (by simp)) (hnew 138 (by decide) (by decide)) (by simp) (by simp) (acc_fr acc (hnew 138 (by decide) (by decide)) (by simp)) (by decide) (by decide) ?_
  refine xa_putRF (pc := 65) (some 138) 8 7 lpX8_32 dX8_init_65 rfl (List.mem_append_left _ (acc_m acc hm)) rfl rfl (fun _ => by cases ‹Option Nat› <;> rfl) (fun _ => by cases ‹Option Nat› <;> rfl) ?_
  replace acc := acc_arr (a := 138) (f := 7) acc (by simp) (by simp) (by decide) (fun k => by simp [xm_R])
  generalize L7 ++ [138] = L8 at acc ⊢
  generalize xa_zi T7 138 = T8 at acc ⊢
  generalize xa_upr (xa_zr R7 138) 130 7 (some 138) = R8 at acc ⊢
  refine xa_aload_n (pc := 68) dX8_init_68 rfl ?_
  refine xa_bipush (pc := 69) (v := 12) dX8_init_69 (by decide) ?_
  refine xa_newZ (pc := 71) 139 12 dX8_init_71 (by decide) (by decide) rfl rfl (by decide) (acc_n acc (hnew 139 (by decide) (by decide)) (by simp)) (hnew 139 (by decide) (by decide)) (by simp) (by simp) (acc_fr acc (hnew 139 (by decide) (by decide)) (by simp)) (by decide) (by decide) ?_
  refine xa_putRF (pc := 73) (some 139) 8 8 lpX8_35 dX8_init_73 rfl (List.mem_append_left _ (acc_m acc hm)) rfl rfl (fun _ => by cases ‹Option Nat› <;> rfl) (fun _ => by cases ‹Option Nat› <;> rfl) ?_
  replace acc := acc_arr (a := 139) (f := 8) acc (by simp) (by simp) (by decide) (fun k => by simp [xm_R])
  generalize L8 ++ [139] = L9 at acc ⊢
  generalize xa_zi T8 139 = T9 at acc ⊢
  generalize xa_upr (xa_zr R8 139) 130 8 (some 139) = R9 at acc ⊢
  refine xa_aload_n (pc := 76) dX8_init_76 rfl ?_
  refine xa_bipush (pc := 77) (v := 12) dX8_init_77 (by decide) ?_
  refine xa_newI (pc := 79) 140 12 dX8_init_79 (by decide) (by decide) rfl rfl (by decide) (acc_n acc (hnew 140 (by decide) (by decide)) (by simp)) (hnew 140 (by decide) (by decide)) (by simp) (by simp) (acc_fr acc (hnew 140 (by decide) (by decide)) (by simp)) (by decide) (by decide) ?_
  refine xa_putRF (pc := 81) (some 140) 8 9 lpX8_38 dX8_init_81 rfl (List.mem_append_left _ (acc_m acc hm)) rfl rfl (fun _ => by cases ‹Option Nat› <;> rfl) (fun _ => by cases ‹Option Nat› <;> rfl) ?_
  replace acc := acc_arr (a := 140) (f := 9) acc (by simp) (by simp) (by decide) (fun k => by simp [xm_R])
  generalize L9 ++ [140] = L10 at acc ⊢
  generalize xa_zi T9 140 = T10 at acc ⊢
  generalize xa_upr (xa_zr R9 140) 130 9 (some 140) = R10 at acc ⊢
  refine xa_aload_n (pc := 84) dX8_init_84 rfl ?_
  refine xa_bipush (pc := 85) (v := 12) dX8_init_85 (by decide) ?_
  refine xa_newI (pc := 87) 141 12 dX8_init_87 (by decide) (by decide) rfl rfl (by decide) (acc_n acc (hnew 141 (by decide) (by decide)) (by simp)) (hnew 141 (by decide) (by decide)) (by simp) (by simp) (acc_fr acc (hnew 141 (by decide) (by decide)) (by simp)) (by decide) (by decide) ?_
  refine xa_putRF (pc := 89) (some 141) 8 10 lpX8_41 dX8_init_89 rfl (List.mem_append_left _ (acc_m acc hm)) rfl rfl (fun _ => by cases ‹Option Nat› <;> rfl) (fun _ => by cases ‹Option Nat› <;> rfl) ?_
  replace acc := acc_arr (a := 141) (f := 10) acc (by simp) (by simp) (by decide) (fun k => by simp [xm_R])
  generalize L10 ++ [141] = L11 at acc ⊢
  generalize xa_zi T10 141 = T11 at acc ⊢
  generalize xa_upr (xa_zr R10 141) 130 10 (some 141) = R11 at acc ⊢
  refine xa_aload_n (pc := 92) dX8_init_92 rfl ?_
  refine xa_bipush (pc := 93) (v := 12) dX8_init_93 (by decide) ?_
  refine xa_newI (pc := 95) 142 12 dX8_init_95 (by decide) (by decide) rfl rfl (by decide) (acc_n acc (hnew 142 (by decide) (by decide)) (by simp)) (hnew 142 (by decide) (by decide)) (by simp) (by simp) (acc_fr acc (hnew 142 (by decide) (by decide)) (by simp)) (by decide) (by decide) ?_
  refine xa_putRF (pc := 97) (some 142) 8 11 lpX8_44 dX8_init_97 rfl (List.mem_append_left _ (acc_m acc hm)) rfl rfl (fun _ => by cases ‹Option Nat› <;> rfl) (fun _ => by cases ‹Option Nat› <;> rfl) ?_
  replace acc := acc_arr (a := 142) (f := 11) acc (by simp) (by simp) (by decide) (fun k => by simp [xm_R])
  generalize L11 ++ [142] = L12 at acc ⊢
  generalize xa_zi T11 142 = T12 at acc ⊢
  generalize xa_upr (xa_zr R11 142) 130 11 (some 142) = R12 at acc ⊢
  refine xa_aload_n (pc := 100) dX8_init_100 rfl ?_
  refine xa_bipush (pc := 101) (v := 12) dX8_init_101 (by decide) ?_
  refine xa_newI (pc := 103) 143 12 dX8_init_103 (by decide) (by decide) rfl rfl (by decide) (acc_n acc (hnew 143 (by decide) (by decide)) (by simp)) (hnew 143 (by decide) (by decide)) (by simp) (by simp) (acc_fr acc (hnew 143 (by decide) (by decide)) (by simp)) (by decide) (by decide) ?_
  refine xa_putRF (pc := 105) (some 143) 8 12 lpX8_47 dX8_init_105 rfl (List.mem_append_left _ (acc_m acc hm)) rfl rfl (fun _ => by cases ‹Option Nat› <;> rfl) (fun _ => by cases ‹Option Nat› <;> rfl) ?_
  replace acc := acc_arr (a := 143) (f := 12) acc (by simp) (by simp) (by decide) (fun k => by simp [xm_R])
  generalize L12 ++ [143] = L13 at acc ⊢
  generalize xa_zi T12 143 = T13 at acc ⊢
  generalize xa_upr (xa_zr R12 143) 130 12 (some 143) = R13 at acc ⊢
  refine xa_aload_n (pc := 108) dX8_init_108 rfl ?_
  refine xa_bipush (pc := 109) (v := 12) dX8_init_109 (by decide) ?_
  refine xa_newI (pc := 111) 144 12 dX8_init_111 (by decide) (by decide) rfl rfl (by decide) (acc_n acc (hnew 144 (by decide) (by decide)) (by simp)) (hnew 144 (by decide) (by decide)) (by simp) (by simp) (acc_fr acc (hnew 144 (by decide) (by decide)) (by simp)) (by decide) (by decide) ?_
  refine xa_putRF (pc := 113) (some 144) 8 13 lpX8_50 dX8_init_113 rfl (List.mem_append_left _ (acc_m acc hm)) rfl rfl (fun _ => by cases ‹Option Nat› <;> rfl) (fun _ => by cases ‹Option Nat› <;> rfl) ?_
  replace acc := acc_arr (a := 144) (f := 13) acc (by simp) (by simp) (by decide) (fun k => by simp [xm_R])
  generalize L13 ++ [144] = L14 at acc ⊢
  generalize xa_zi T13 144 = T14 at acc ⊢
  generalize xa_upr (xa_zr R13 144) 130 13 (some 144) = R14 at acc ⊢
  refine xa_aload_n (pc := 116) dX8_init_116 rfl ?_
  refine xa_bipush (pc := 117) (v := 32) dX8_init_117 (by decide) ?_
  refine xa_newI (pc := 119) 146 32 dX8_init_119 (by decide) (by decide) rfl rfl (by decide) (acc_n acc (hnew 146 (by decide) (by decide)) (by simp)) (hnew 146 (by decide) (by decide)) (by simp) (by simp) (acc_fr acc (hnew 146 (by decide) (by decide)) (by simp)) (by decide) (by decide) ?_
  refine xa_putRF (pc := 121) (some 146) 8 15 lpX8_53 dX8_init_121 rfl (List.mem_append_left _ (acc_m acc hm)) rfl rfl (fun _ => by cases ‹Option Nat› <;> rfl) (fun _ => by cases ‹Option Nat› <;> rfl) ?_
  replace acc := acc_arr (a := 146) (f := 15) acc (by simp) (by simp) (by decide) (fun k => by simp [xm_R])
  generalize L14 ++ [146] = L15 at acc ⊢
  generalize xa_zi T14 146 = T15 at acc ⊢
  generalize xa_upr (xa_zr R14 146) 130 15 (some 146) = R15 at acc ⊢
  refine xa_aload_n (pc := 124) dX8_init_124 rfl ?_
  refine xa_bipush (pc := 125) (v := 32) dX8_init_125 (by decide) ?_
  refine xa_newI (pc := 127) 147 32 dX8_init_127 (by decide) (by decide) rfl rfl (by decide) (acc_n acc (hnew 147 (by decide) (by decide)) (by simp)) (hnew 147 (by decide) (by decide)) (by simp) (by simp) (acc_fr acc (hnew 147 (by decide) (by decide)) (by simp)) (by decide) (by decide) ?_
  refine xa_putRF (pc := 129) (some 147) 8 16 lpX8_56 dX8_init_129 rfl (List.mem_append_left _ (acc_m acc hm)) rfl rfl (fun _ => by cases ‹Option Nat› <;> rfl) (fun _ => by cases ‹Option Nat› <;> rfl) ?_
  replace acc := acc_arr (a := 147) (f := 16) acc (by simp) (by simp) (by decide) (fun k => by simp [xm_R])
  generalize L15 ++ [147] = L16 at acc ⊢
  generalize xa_zi T15 147 = T16 at acc ⊢
  generalize xa_upr (xa_zr R15 147) 130 16 (some 147) = R16 at acc ⊢
  refine xa_aload_n (pc := 132) dX8_init_132 rfl ?_
  refine xa_bipush (pc := 133) (v := 32) dX8_init_133 (by decide) ?_
  refine xa_newI (pc := 135) 148 32 dX8_init_135 (by decide) (by decide) rfl rfl (by decide) (acc_n acc (hnew 148 (by decide) (by decide)) (by simp)) (hnew 148 (by decide) (by decide)) (by simp) (by simp) (acc_fr acc (hnew 148 (by decide) (by decide)) (by simp)) (by decide) (by decide) ?_
  refine xa_putRF (pc := 137) (some 148) 8 17 lpX8_59 dX8_init_137 rfl (List.mem_append_left _ (acc_m acc hm)) rfl rfl (fun _ => by cases ‹Option Nat› <;> rfl) (fun _ => by cases ‹Option Nat› <;> rfl) ?_
  replace acc := acc_arr (a := 148) (f := 17) acc (by simp) (by simp) (by decide) (fun k => by simp [xm_R])
  generalize L16 ++ [148] = L17 at acc ⊢
  generalize xa_zi T16 148 = T17 at acc ⊢
  generalize xa_upr (xa_zr R16 148) 130 17 (some 148) = R17 at acc ⊢
  refine xa_aload_n (pc := 140) dX8_init_140 rfl ?_
  refine xa_bipush (pc := 141) (v := 32) dX8_init_141 (by decide) ?_
  refine xa_newI (pc := 143) 149 32 dX8_init_143 (by decide) (by decide) rfl rfl (by decide) (acc_n acc (hnew 149 (by decide) (by decide)) (by simp)) (hnew 149 (by decide) (by decide)) (by simp) (by simp) (acc_fr acc (hnew 149 (by decide) (by decide)) (by simp)) (by decide) (by decide) ?_
  refine xa_putRF (pc := 145) (some 149) 8 18 lpX8_62 dX8_init_145 rfl (List.mem_append_left _ (acc_m acc hm)) rfl rfl (fun _ => by cases ‹Option Nat› <;> rfl) (fun _ => by cases ‹Option Nat› <;> rfl) ?_
  replace acc := acc_arr (a := 149) (f := 18) acc (by simp) (by simp) (by decide) (fun k => by simp [xm_R])
  generalize L17 ++ [149] = L18 at acc ⊢
  generalize xa_zi T17 149 = T18 at acc ⊢
  generalize xa_upr (xa_zr R17 149) 130 18 (some 149) = R18 at acc ⊢
  refine xa_aload_n (pc := 148) dX8_init_148 rfl ?_
  refine xa_bipush (pc := 149) (v := 32) dX8_init_149 (by decide) ?_
  refine xa_newI (pc := 151) 150 32 dX8_init_151 (by decide) (by decide) rfl rfl (by decide) (acc_n acc (hnew 150 (by decide) (by decide)) (by simp)) (hnew 150 (by decide) (by decide)) (by simp) (by simp) (acc_fr acc (hnew 150 (by decide) (by decide)) (by simp)) (by decide) (by decide) ?_
  refine xa_putRF (pc := 153) (some 150) 8 19 lpX8_65 dX8_init_153 rfl (List.mem_append_left _ (acc_m acc hm)) rfl rfl (fun _ => by cases ‹Option Nat› <;> rfl) (fun _ => by cases ‹Option Nat› <;> rfl) ?_
  replace acc := acc_arr (a := 150) (f := 19) acc (by simp) (by simp) (by decide) (fun k => by simp [xm_R])
  generalize L18 ++ [150] = L19 at acc ⊢
  generalize xa_zi T18 150 = T19 at acc ⊢
  generalize xa_upr (xa_zr R18 150) 130 19 (some 150) = R19 at acc ⊢
  refine xa_aload_n (pc := 156) dX8_init_156 rfl ?_
  refine xa_bipush (pc := 157) (v := 32) dX8_init_157 (by decide) ?_
  refine xa_newI (pc := 159) 151 32 dX8_init_159 (by decide) (by decide) rfl rfl (by decide) (acc_n acc (hnew 151 (by decide) (by decide)) (by simp)) (hnew 151 (by decide) (by decide)) (by simp) (by simp) (acc_fr acc (hnew 151 (by decide) (by decide)) (by simp)) (by decide) (by decide) ?_
  refine xa_putRF (pc := 161) (some 151) 8 20 lpX8_68 dX8_init_161 rfl (List.mem_append_left _ (acc_m acc hm)) rfl rfl (fun _ => by cases ‹Option Nat› <;> rfl) (fun _ => by cases ‹Option Nat› <;> rfl) ?_
  replace acc := acc_arr (a := 151) (f := 20) acc (by simp) (by simp) (by decide) (fun k => by simp [xm_R])
  generalize L19 ++ [151] = L20 at acc ⊢
  generalize xa_zi T19 151 = T20 at acc ⊢
  generalize xa_upr (xa_zr R19 151) 130 20 (some 151) = R20 at acc ⊢
  refine xa_aload_n (pc := 164) dX8_init_164 rfl ?_
  refine xa_bipush (pc := 165) (v := 32) dX8_init_165 (by decide) ?_
  refine xa_newI (pc := 167) 152 32 dX8_init_167 (by decide) (by decide) rfl rfl (by decide) (acc_n acc (hnew 152 (by decide) (by decide)) (by simp)) (hnew 152 (by decide) (by decide)) (by simp) (by simp) (acc_fr acc (hnew 152 (by decide) (by decide)) (by simp)) (by decide) (by decide) ?_
  refine xa_putRF (pc := 169) (some 152) 8 21 lpX8_71 dX8_init_169 rfl (List.mem_append_left _ (acc_m acc hm)) rfl rfl (fun _ => by cases ‹Option Nat› <;> rfl) (fun _ => by cases ‹Option Nat› <;> rfl) ?_
  replace acc := acc_arr (a := 152) (f := 21) acc (by simp) (by simp) (by decide) (fun k => by simp [xm_R])
  generalize L20 ++ [152] = L21 at acc ⊢
  generalize xa_zi T20 152 = T21 at acc ⊢
  generalize xa_upr (xa_zr R20 152) 130 21 (some 152) = R21 at acc ⊢
  refine xa_aload_n (pc := 172) dX8_init_172 rfl ?_
  refine xa_bipush (pc := 173) (v := 32) dX8_init_173 (by decide) ?_
  refine xa_newI (pc := 175) 153 32 dX8_init_175 (by decide) (by decide) rfl rfl (by decide) (acc_n acc (hnew 153 (by decide) (by decide)) (by simp)) (hnew 153 (by decide) (by decide)) (by simp) (by simp) (acc_fr acc (hnew 153 (by decide) (by decide)) (by simp)) (by decide) (by decide) ?_
  refine xa_putRF (pc := 177) (some 153) 8 22 lpX8_74 dX8_init_177 rfl (List.mem_append_left _ (acc_m acc hm)) rfl rfl (fun _ => by cases ‹Option Nat› <;> rfl) (fun _ => by cases ‹Option Nat› <;> rfl) ?_
  replace acc := acc_arr (a := 153) (f := 22) acc (by simp) (by simp) (by decide) (fun k => by simp [xm_R])
  generalize L21 ++ [153] = L22 at acc ⊢
  generalize xa_zi T21 153 = T22 at acc ⊢
  generalize xa_upr (xa_zr R21 153) 130 22 (some 153) = R22 at acc ⊢
  refine xa_aload_n (pc := 180) dX8_init_180 rfl ?_
  refine xa_bipush (pc := 181) (v := 32) dX8_init_181 (by decide) ?_
  refine xa_newI (pc := 183) 154 32 dX8_init_183 (by decide) (by decide) rfl rfl (by decide) (acc_n acc (hnew 154 (by decide) (by decide)) (by simp)) (hnew 154 (by decide) (by decide)) (by simp) (by simp) (acc_fr acc (hnew 154 (by decide) (by decide)) (by simp)) (by decide) (by decide) ?_
  refine xa_putRF (pc := 185) (some 154) 8 23 lpX8_77 dX8_init_185 rfl (List.mem_append_left _ (acc_m acc hm)) rfl rfl (fun _ => by cases ‹Option Nat› <;> rfl) (fun _ => by cases ‹Option Nat› <;> rfl) ?_
  replace acc := acc_arr (a := 154) (f := 23) acc (by simp) (by simp) (by decide) (fun k => by simp [xm_R])
  generalize L22 ++ [154] = L23 at acc ⊢
  generalize xa_zi T22 154 = T23 at acc ⊢
  generalize xa_upr (xa_zr R22 154) 130 23 (some 154) = R23 at acc ⊢
  refine xa_aload_n (pc := 188) dX8_init_188 rfl ?_
  refine xa_bipush (pc := 189) (v := 32) dX8_init_189 (by decide) ?_
  refine xa_newZ (pc := 191) 155 32 dX8_init_191 (by decide) (by decide) rfl rfl (by decide) (acc_n acc (hnew 155 (by decide) (by decide)) (by simp)) (hnew 155 (by decide) (by decide)) (by simp) (by simp) (acc_fr acc (hnew 155 (by decide) (by decide)) (by simp)) (by decide) (by decide) ?_
  refine xa_putRF (pc := 193) (some 155) 8 24 lpX8_80 dX8_init_193 rfl (List.mem_append_left _ (acc_m acc hm)) rfl rfl (fun _ => by cases ‹Option Nat› <;> rfl) (fun _ => by cases ‹Option Nat› <;> rfl) ?_
  replace acc := acc_arr (a := 155) (f := 24) acc (by simp) (by simp) (by decide) (fun k => by simp [xm_R])
  generalize L23 ++ [155] = L24 at acc ⊢
  generalize xa_zi T23 155 = T24 at acc ⊢
  generalize xa_upr (xa_zr R23 155) 130 24 (some 155) = R24 at acc ⊢
  refine xa_aload_n (pc := 196) dX8_init_196 rfl ?_
  refine xa_bipush (pc := 197) (v := 32) dX8_init_197 (by decide) ?_
  refine xa_newZ (pc := 199) 156 32 dX8_init_199 (by decide) (by decide) rfl rfl (by decide) (acc_n acc (hnew 156 (by decide) (by decide)) (by simp)) (hnew 156 (by decide) (by decide)) (by simp) (by simp) (acc_fr acc (hnew 156 (by decide) (by decide)) (by simp)) (by decide) (by decide) ?_
  refine xa_putRF (pc := 201) (some 156) 8 25 lpX8_83 dX8_init_201 rfl (List.mem_append_left _ (acc_m acc hm)) rfl rfl (fun _ => by cases ‹Option Nat› <;> rfl) (fun _ => by cases ‹Option Nat› <;> rfl) ?_
  replace acc := acc_arr (a := 156) (f := 25) acc (by simp) (by simp) (by decide) (fun k => by simp [xm_R])
  generalize L24 ++ [156] = L25 at acc ⊢
  generalize xa_zi T24 156 = T25 at acc ⊢
  generalize xa_upr (xa_zr R24 156) 130 25 (some 156) = R25 at acc ⊢
  refine xa_aload_n (pc := 204) dX8_init_204 rfl ?_
  refine xa_sipush (pc := 205) (v := 384) dX8_init_205 (by decide) ?_
  refine xa_newZ (pc := 208) 158 384 dX8_init_208 (by decide) (by decide) rfl rfl (by decide) (acc_n acc (hnew 158 (by decide) (by decide)) (by simp)) (hnew 158 (by decide) (by decide)) (by simp) (by simp) (acc_fr acc (hnew 158 (by decide) (by decide)) (by simp)) (by decide) (by decide) ?_
  refine xa_putRF (pc := 210) (some 158) 8 27 lpX8_86 dX8_init_210 rfl (List.mem_append_left _ (acc_m acc hm)) rfl rfl (fun _ => by cases ‹Option Nat› <;> rfl) (fun _ => by cases ‹Option Nat› <;> rfl) ?_
  replace acc := acc_arr (a := 158) (f := 27) acc (by simp) (by simp) (by decide) (fun k => by simp [xm_R])
  generalize L25 ++ [158] = L26 at acc ⊢
  generalize xa_zi T25 158 = T26 at acc ⊢
  generalize xa_upr (xa_zr R25 158) 130 27 (some 158) = R26 at acc ⊢
  refine xa_aload_n (pc := 213) dX8_init_213 rfl ?_
  refine xa_sipush (pc := 214) (v := 384) dX8_init_214 (by decide) ?_
  refine xa_newI (pc := 217) 159 384 dX8_init_217 (by decide) (by decide) rfl rfl (by decide) (acc_n acc (hnew 159 (by decide) (by decide)) (by simp)) (hnew 159 (by decide) (by decide)) (by simp) (by simp) (acc_fr acc (hnew 159 (by decide) (by decide)) (by simp)) (by decide) (by decide) ?_
  refine xa_putRF (pc := 219) (some 159) 8 28 lpX8_89 dX8_init_219 rfl (List.mem_append_left _ (acc_m acc hm)) rfl rfl (fun _ => by cases ‹Option Nat› <;> rfl) (fun _ => by cases ‹Option Nat› <;> rfl) ?_
  replace acc := acc_arr (a := 159) (f := 28) acc (by simp) (by simp) (by decide) (fun k => by simp [xm_R])
  generalize L26 ++ [159] = L27 at acc ⊢
  generalize xa_zi T26 159 = T27 at acc ⊢
  generalize xa_upr (xa_zr R26 159) 130 28 (some 159) = R27 at acc ⊢
  refine xa_aload_n (pc := 222) dX8_init_222 rfl ?_
  refine xa_sipush (pc := 223) (v := 384) dX8_init_223 (by decide) ?_
  refine xa_newI (pc := 226) 160 384 dX8_init_226 (by decide) (by decide) rfl rfl (by decide) (acc_n acc (hnew 160 (by decide) (by decide)) (by simp)) (hnew 160 (by decide) (by decide)) (by simp) (by simp) (acc_fr acc (hnew 160 (by decide) (by decide)) (by simp)) (by decide) (by decide) ?_
  refine xa_putRF (pc := 228) (some 160) 8 29 lpX8_92 dX8_init_228 rfl (List.mem_append_left _ (acc_m acc hm)) rfl rfl (fun _ => by cases ‹Option Nat› <;> rfl) (fun _ => by cases ‹Option Nat› <;> rfl) ?_
  replace acc := acc_arr (a := 160) (f := 29) acc (by simp) (by simp) (by decide) (fun k => by simp [xm_R])
  generalize L27 ++ [160] = L28 at acc ⊢
  generalize xa_zi T27 160 = T28 at acc ⊢
  generalize xa_upr (xa_zr R27 160) 130 29 (some 160) = R28 at acc ⊢
  refine xa_aload_n (pc := 231) dX8_init_231 rfl ?_
  refine xa_sipush (pc := 232) (v := 384) dX8_init_232 (by decide) ?_
  refine xa_newI (pc := 235) 161 384 dX8_init_235 (by decide) (by decide) rfl rfl (by decide) (acc_n acc (hnew 161 (by decide) (by decide)) (by simp)) (hnew 161 (by decide) (by decide)) (by simp) (by simp) (acc_fr acc (hnew 161 (by decide) (by decide)) (by simp)) (by decide) (by decide) ?_
  refine xa_putRF (pc := 237) (some 161) 8 30 lpX8_95 dX8_init_237 rfl (List.mem_append_left _ (acc_m acc hm)) rfl rfl (fun _ => by cases ‹Option Nat› <;> rfl) (fun _ => by cases ‹Option Nat› <;> rfl) ?_
  replace acc := acc_arr (a := 161) (f := 30) acc (by simp) (by simp) (by decide) (fun k => by simp [xm_R])
  generalize L28 ++ [161] = L29 at acc ⊢
  generalize xa_zi T28 161 = T29 at acc ⊢
  generalize xa_upr (xa_zr R28 161) 130 30 (some 161) = R29 at acc ⊢
  refine xa_aload_n (pc := 240) dX8_init_240 rfl ?_
  refine xa_sipush (pc := 241) (v := 384) dX8_init_241 (by decide) ?_
  refine xa_newI (pc := 244) 162 384 dX8_init_244 (by decide) (by decide) rfl rfl (by decide) (acc_n acc (hnew 162 (by decide) (by decide)) (by simp)) (hnew 162 (by decide) (by decide)) (by simp) (by simp) (acc_fr acc (hnew 162 (by decide) (by decide)) (by simp)) (by decide) (by decide) ?_
  refine xa_putRF (pc := 246) (some 162) 8 31 lpX8_98 dX8_init_246 rfl (List.mem_append_left _ (acc_m acc hm)) rfl rfl (fun _ => by cases ‹Option Nat› <;> rfl) (fun _ => by cases ‹Option Nat› <;> rfl) ?_
  replace acc := acc_arr (a := 162) (f := 31) acc (by simp) (by simp) (by decide) (fun k => by simp [xm_R])
  generalize L29 ++ [162] = L30 at acc ⊢
  generalize xa_zi T29 162 = T30 at acc ⊢
  generalize xa_upr (xa_zr R29 162) 130 31 (some 162) = R30 at acc ⊢
  refine xa_aload_n (pc := 249) dX8_init_249 rfl ?_
  refine xa_sipush (pc := 250) (v := 384) dX8_init_250 (by decide) ?_
  refine xa_newI (pc := 253) 163 384 dX8_init_253 (by decide) (by decide) rfl rfl (by decide) (acc_n acc (hnew 163 (by decide) (by decide)) (by simp)) (hnew 163 (by decide) (by decide)) (by simp) (by simp) (acc_fr acc (hnew 163 (by decide) (by decide)) (by simp)) (by decide) (by decide) ?_
  refine xa_putRF (pc := 255) (some 163) 8 32 lpX8_101 dX8_init_255 rfl (List.mem_append_left _ (acc_m acc hm)) rfl rfl (fun _ => by cases ‹Option Nat› <;> rfl) (fun _ => by cases ‹Option Nat› <;> rfl) ?_
  replace acc := acc_arr (a := 163) (f := 32) acc (by simp) (by simp) (by decide) (fun k => by simp [xm_R])
  generalize L30 ++ [163] = L31 at acc ⊢
  generalize xa_zi T30 163 = T31 at acc ⊢
  generalize xa_upr (xa_zr R30 163) 130 32 (some 163) = R31 at acc ⊢
  refine xa_aload_n (pc := 258) dX8_init_258 rfl ?_
  refine xa_sipush (pc := 259) (v := 192) dX8_init_259 (by decide) ?_
  refine xa_newZ (pc := 262) 164 192 dX8_init_262 (by decide) (by decide) rfl rfl (by decide) (acc_n acc (hnew 164 (by decide) (by decide)) (by simp)) (hnew 164 (by decide) (by decide)) (by simp) (by simp) (acc_fr acc (hnew 164 (by decide) (by decide)) (by simp)) (by decide) (by decide) ?_
  refine xa_putRF (pc := 264) (some 164) 8 33 lpX8_104 dX8_init_264 rfl (List.mem_append_left _ (acc_m acc hm)) rfl rfl (fun _ => by cases ‹Option Nat› <;> rfl) (fun _ => by cases ‹Option Nat› <;> rfl) ?_
  replace acc := acc_arr (a := 164) (f := 33) acc (by simp) (by simp) (by decide) (fun k => by simp [xm_R])
  generalize L31 ++ [164] = L32 at acc ⊢
  generalize xa_zi T31 164 = T32 at acc ⊢
  generalize xa_upr (xa_zr R31 164) 130 33 (some 164) = R32 at acc ⊢
  refine xa_aload_n (pc := 267) dX8_init_267 rfl ?_
  refine xa_sipush (pc := 268) (v := 192) dX8_init_268 (by decide) ?_
  refine xa_newI (pc := 271) 165 192 dX8_init_271 (by decide) (by decide) rfl rfl (by decide) (acc_n acc (hnew 165 (by decide) (by decide)) (by simp)) (hnew 165 (by decide) (by decide)) (by simp) (by simp) (acc_fr acc (hnew 165 (by decide) (by decide)) (by simp)) (by decide) (by decide) ?_
  refine xa_putRF (pc := 273) (some 165) 8 34 lpX8_107 dX8_init_273 rfl (List.mem_append_left _ (acc_m acc hm)) rfl rfl (fun _ => by cases ‹Option Nat› <;> rfl) (fun _ => by cases ‹Option Nat› <;> rfl) ?_
  replace acc := acc_arr (a := 165) (f := 34) acc (by simp) (by simp) (by decide) (fun k => by simp [xm_R])
  generalize L32 ++ [165] = L33 at acc ⊢
  generalize xa_zi T32 165 = T33 at acc ⊢
  generalize xa_upr (xa_zr R32 165) 130 34 (some 165) = R33 at acc ⊢
  refine xa_aload_n (pc := 276) dX8_init_276 rfl ?_
  refine xa_sipush (pc := 277) (v := 192) dX8_init_277 (by decide) ?_
  refine xa_newI (pc := 280) 166 192 dX8_init_280 (by decide) (by decide) rfl rfl (by decide) (acc_n acc (hnew 166 (by decide) (by decide)) (by simp)) (hnew 166 (by decide) (by decide)) (by simp) (by simp) (acc_fr acc (hnew 166 (by decide) (by decide)) (by simp)) (by decide) (by decide) ?_
  refine xa_putRF (pc := 282) (some 166) 8 35 lpX8_110 dX8_init_282 rfl (List.mem_append_left _ (acc_m acc hm)) rfl rfl (fun _ => by cases ‹Option Nat› <;> rfl) (fun _ => by cases ‹Option Nat› <;> rfl) ?_
  replace acc := acc_arr (a := 166) (f := 35) acc (by simp) (by simp) (by decide) (fun k => by simp [xm_R])
  generalize L33 ++ [166] = L34 at acc ⊢
  generalize xa_zi T33 166 = T34 at acc ⊢
  generalize xa_upr (xa_zr R33 166) 130 35 (some 166) = R34 at acc ⊢
  refine xa_aload_n (pc := 285) dX8_init_285 rfl ?_
  refine xa_bipush (pc := 286) (v := 24) dX8_init_286 (by decide) ?_
  refine xa_newI (pc := 288) 176 24 dX8_init_288 (by decide) (by decide) rfl rfl (by decide) (acc_n acc (hnew 176 (by decide) (by decide)) (by simp)) (hnew 176 (by decide) (by decide)) (by simp) (by simp) (acc_fr acc (hnew 176 (by decide) (by decide)) (by simp)) (by decide) (by decide) ?_
  refine xa_putRF (pc := 290) (some 176) 8 45 lpX8_113 dX8_init_290 rfl (List.mem_append_left _ (acc_m acc hm)) rfl rfl (fun _ => by cases ‹Option Nat› <;> rfl) (fun _ => by cases ‹Option Nat› <;> rfl) ?_
  replace acc := acc_arr (a := 176) (f := 45) acc (by simp) (by simp) (by decide) (fun k => by simp [xm_R])
  generalize L34 ++ [176] = L35 at acc ⊢
  generalize xa_zi T34 176 = T35 at acc ⊢
  generalize xa_upr (xa_zr R34 176) 130 45 (some 176) = R35 at acc ⊢
  refine xa_aload_n (pc := 293) dX8_init_293 rfl ?_
  refine xa_bipush (pc := 294) (v := 24) dX8_init_294 (by decide) ?_
  refine xa_newI (pc := 296) 177 24 dX8_init_296 (by decide) (by decide) rfl rfl (by decide) (acc_n acc (hnew 177 (by decide) (by decide)) (by simp)) (hnew 177 (by decide) (by decide)) (by simp) (by simp) (acc_fr acc (hnew 177 (by decide) (by decide)) (by simp)) (by decide) (by decide) ?_
  refine xa_putRF (pc := 298) (some 177) 8 46 lpX8_116 dX8_init_298 rfl (List.mem_append_left _ (acc_m acc hm)) rfl rfl (fun _ => by cases ‹Option Nat› <;> rfl) (fun _ => by cases ‹Option Nat› <;> rfl) ?_
  replace acc := acc_arr (a := 177) (f := 46) acc (by simp) (by simp) (by decide) (fun k => by simp [xm_R])
  generalize L35 ++ [177] = L36 at acc ⊢
  generalize xa_zi T35 177 = T36 at acc ⊢
  generalize xa_upr (xa_zr R35 177) 130 46 (some 177) = R36 at acc ⊢
  refine xa_aload_n (pc := 301) dX8_init_301 rfl ?_
  refine xa_sipush (pc := 302) (v := 768) dX8_init_302 (by decide) ?_
  refine xa_newZ (pc := 305) 179 768 dX8_init_305 (by decide) (by decide) rfl rfl (by decide) (acc_n acc (hnew 179 (by decide) (by decide)) (by simp)) (hnew 179 (by decide) (by decide)) (by simp) (by simp) (acc_fr acc (hnew 179 (by decide) (by decide)) (by simp)) (by decide) (by decide) ?_
  refine xa_putRF (pc := 307) (some 179) 8 48 lpX8_119 dX8_init_307 rfl (List.mem_append_left _ (acc_m acc hm)) rfl rfl (fun _ => by cases ‹Option Nat› <;> rfl) (fun _ => by cases ‹Option Nat› <;> rfl) ?_
  replace acc := acc_arr (a := 179) (f := 48) acc (by simp) (by simp) (by decide) (fun k => by simp [xm_R])
  generalize L36 ++ [179] = L37 at acc ⊢
  generalize xa_zi T36 179 = T37 at acc ⊢
  generalize xa_upr (xa_zr R36 179) 130 48 (some 179) = R37 at acc ⊢
  refine xa_aload_n (pc := 310) dX8_init_310 rfl ?_
  refine xa_sipush (pc := 311) (v := 768) dX8_init_311 (by decide) ?_
  refine xa_newI (pc := 314) 180 768 dX8_init_314 (by decide) (by decide) rfl rfl (by decide) (acc_n acc (hnew 180 (by decide) (by decide)) (by simp)) (hnew 180 (by decide) (by decide)) (by simp) (by simp) (acc_fr acc (hnew 180 (by decide) (by decide)) (by simp)) (by decide) (by decide) ?_
  refine xa_putRF (pc := 316) (some 180) 8 49 lpX8_122 dX8_init_316 rfl (List.mem_append_left _ (acc_m acc hm)) rfl rfl (fun _ => by cases ‹Option Nat› <;> rfl) (fun _ => by cases ‹Option Nat› <;> rfl) ?_
  replace acc := acc_arr (a := 180) (f := 49) acc (by simp) (by simp) (by decide) (fun k => by simp [xm_R])
  generalize L37 ++ [180] = L38 at acc ⊢
  generalize xa_zi T37 180 = T38 at acc ⊢
  generalize xa_upr (xa_zr R37 180) 130 49 (some 180) = R38 at acc ⊢
  refine xa_aload_n (pc := 319) dX8_init_319 rfl ?_
  refine xa_sipush (pc := 320) (v := 768) dX8_init_320 (by decide) ?_
  refine xa_newI (pc := 323) 181 768 dX8_init_323 (by decide) (by decide) rfl rfl (by decide) (acc_n acc (hnew 181 (by decide) (by decide)) (by simp)) (hnew 181 (by decide) (by decide)) (by simp) (by simp) (acc_fr acc (hnew 181 (by decide) (by decide)) (by simp)) (by decide) (by decide) ?_
  refine xa_putRF (pc := 325) (some 181) 8 50 lpX8_125 dX8_init_325 rfl (List.mem_append_left _ (acc_m acc hm)) rfl rfl (fun _ => by cases ‹Option Nat› <;> rfl) (fun _ => by cases ‹Option Nat› <;> rfl) ?_
  replace acc := acc_arr (a := 181) (f := 50) acc (by simp) (by simp) (by decide) (fun k => by simp [xm_R])
  generalize L38 ++ [181] = L39 at acc ⊢
  generalize xa_zi T38 181 = T39 at acc ⊢
  generalize xa_upr (xa_zr R38 181) 130 50 (some 181) = R39 at acc ⊢
  refine xa_aload_n (pc := 328) dX8_init_328 rfl ?_
  refine xa_sipush (pc := 329) (v := 768) dX8_init_329 (by decide) ?_
  refine xa_newI (pc := 332) 182 768 dX8_init_332 (by decide) (by decide) rfl rfl (by decide) (acc_n acc (hnew 182 (by decide) (by decide)) (by simp)) (hnew 182 (by decide) (by decide)) (by simp) (by simp) (acc_fr acc (hnew 182 (by decide) (by decide)) (by simp)) (by decide) (by decide) ?_
  refine xa_putRF (pc := 334) (some 182) 8 51 lpX8_128 dX8_init_334 rfl (List.mem_append_left _ (acc_m acc hm)) rfl rfl (fun _ => by cases ‹Option Nat› <;> rfl) (fun _ => by cases ‹Option Nat› <;> rfl) ?_
  replace acc := acc_arr (a := 182) (f := 51) acc (by simp) (by simp) (by decide) (fun k => by simp [xm_R])
  generalize L39 ++ [182] = L40 at acc ⊢
  generalize xa_zi T39 182 = T40 at acc ⊢
  generalize xa_upr (xa_zr R39 182) 130 51 (some 182) = R40 at acc ⊢
  refine xa_aload_n (pc := 337) dX8_init_337 rfl ?_
  refine xa_sipush (pc := 338) (v := 1536) dX8_init_338 (by decide) ?_
  refine xa_newI (pc := 341) 183 1536 dX8_init_341 (by decide) (by decide) rfl rfl (by decide) (acc_n acc (hnew 183 (by decide) (by decide)) (by simp)) (hnew 183 (by decide) (by decide)) (by simp) (by simp) (acc_fr acc (hnew 183 (by decide) (by decide)) (by simp)) (by decide) (by decide) ?_
  refine xa_putRF (pc := 343) (some 183) 8 52 lpX8_131 dX8_init_343 rfl (List.mem_append_left _ (acc_m acc hm)) rfl rfl (fun _ => by cases ‹Option Nat› <;> rfl) (fun _ => by cases ‹Option Nat› <;> rfl) ?_
  replace acc := acc_arr (a := 183) (f := 52) acc (by simp) (by simp) (by decide) (fun k => by simp [xm_R])
  generalize L40 ++ [183] = L41 at acc ⊢
  generalize xa_zi T40 183 = T41 at acc ⊢
  generalize xa_upr (xa_zr R40 183) 130 52 (some 183) = R41 at acc ⊢
  refine xa_aload_n (pc := 346) dX8_init_346 rfl ?_
  refine xa_sipush (pc := 347) (v := 1536) dX8_init_347 (by decide) ?_
  refine xa_newI (pc := 350) 184 1536 dX8_init_350 (by decide) (by decide) rfl rfl (by decide) (acc_n acc (hnew 184 (by decide) (by decide)) (by simp)) (hnew 184 (by decide) (by decide)) (by simp) (by simp) (acc_fr acc (hnew 184 (by decide) (by decide)) (by simp)) (by decide) (by decide) ?_
  refine xa_putRF (pc := 352) (some 184) 8 53 lpX8_134 dX8_init_352 rfl (List.mem_append_left _ (acc_m acc hm)) rfl rfl (fun _ => by cases ‹Option Nat› <;> rfl) (fun _ => by cases ‹Option Nat› <;> rfl) ?_
  replace acc := acc_arr (a := 184) (f := 53) acc (by simp) (by simp) (by decide) (fun k => by simp [xm_R])
  generalize L41 ++ [184] = L42 at acc ⊢
  generalize xa_zi T41 184 = T42 at acc ⊢
  generalize xa_upr (xa_zr R41 184) 130 53 (some 184) = R42 at acc ⊢
  refine xa_aload_n (pc := 355) dX8_init_355 rfl ?_
  refine xa_sipush (pc := 356) (v := 1536) dX8_init_356 (by decide) ?_
  refine xa_newZ (pc := 359) 185 1536 dX8_init_359 (by decide) (by decide) rfl rfl (by decide) (acc_n acc (hnew 185 (by decide) (by decide)) (by simp)) (hnew 185 (by decide) (by decide)) (by simp) (by simp) (acc_fr acc (hnew 185 (by decide) (by decide)) (by simp)) (by decide) (by decide) ?_
  refine xa_putRF (pc := 361) (some 185) 8 54 lpX8_137 dX8_init_361 rfl (List.mem_append_left _ (acc_m acc hm)) rfl rfl (fun _ => by cases ‹Option Nat› <;> rfl) (fun _ => by cases ‹Option Nat› <;> rfl) ?_
  replace acc := acc_arr (a := 185) (f := 54) acc (by simp) (by simp) (by decide) (fun k => by simp [xm_R])
  generalize L42 ++ [185] = L43 at acc ⊢
  generalize xa_zi T42 185 = T43 at acc ⊢
  generalize xa_upr (xa_zr R42 185) 130 54 (some 185) = R43 at acc ⊢
  refine xa_aload_n (pc := 364) dX8_init_364 rfl ?_
  refine xa_sipush (pc := 365) (v := 1536) dX8_init_365 (by decide) ?_
  refine xa_newI (pc := 368) 186 1536 dX8_init_368 (by decide) (by decide) rfl rfl (by decide) (acc_n acc (hnew 186 (by decide) (by decide)) (by simp)) (hnew 186 (by decide) (by decide)) (by simp) (by simp) (acc_fr acc (hnew 186 (by decide) (by decide)) (by simp)) (by decide) (by decide) ?_
  refine xa_putRF (pc := 370) (some 186) 8 55 lpX8_140 dX8_init_370 rfl (List.mem_append_left _ (acc_m acc hm)) rfl rfl (fun _ => by cases ‹Option Nat› <;> rfl) (fun _ => by cases ‹Option Nat› <;> rfl) ?_
  replace acc := acc_arr (a := 186) (f := 55) acc (by simp) (by simp) (by decide) (fun k => by simp [xm_R])
  generalize L43 ++ [186] = L44 at acc ⊢
  generalize xa_zi T43 186 = T44 at acc ⊢
  generalize xa_upr (xa_zr R43 186) 130 55 (some 186) = R44 at acc ⊢
  refine xa_aload_n (pc := 373) dX8_init_373 rfl ?_
  refine xa_sipush (pc := 374) (v := 1536) dX8_init_374 (by decide) ?_
  refine xa_newI (pc := 377) 187 1536 dX8_init_377 (by decide) (by decide) rfl rfl (by decide) (acc_n acc (hnew 187 (by decide) (by decide)) (by simp)) (hnew 187 (by decide) (by decide)) (by simp) (by simp) (acc_fr acc (hnew 187 (by decide) (by decide)) (by simp)) (by decide) (by decide) ?_
  refine xa_putRF (pc := 379) (some 187) 8 56 lpX8_143 dX8_init_379 rfl (List.mem_append_left _ (acc_m acc hm)) rfl rfl (fun _ => by cases ‹Option Nat› <;> rfl) (fun _ => by cases ‹Option Nat› <;> rfl) ?_
  replace acc := acc_arr (a := 187) (f := 56) acc (by simp) (by simp) (by decide) (fun k => by simp [xm_R])
  generalize L44 ++ [187] = L45 at acc ⊢
  generalize xa_zi T44 187 = T45 at acc ⊢
  generalize xa_upr (xa_zr R44 187) 130 56 (some 187) = R45 at acc ⊢
  refine xa_aload_n (pc := 382) dX8_init_382 rfl ?_
  refine xa_sipush (pc := 383) (v := 1536) dX8_init_383 (by decide) ?_
  refine xa_newI (pc := 386) 188 1536 dX8_init_386 (by decide) (by decide) rfl rfl (by decide) (acc_n acc (hnew 188 (by decide) (by decide)) (by simp)) (hnew 188 (by decide) (by decide)) (by simp) (by simp) (acc_fr acc (hnew 188 (by decide) (by decide)) (by simp)) (by decide) (by decide) ?_
  refine xa_putRF (pc := 388) (some 188) 8 57 lpX8_146 dX8_init_388 rfl (List.mem_append_left _ (acc_m acc hm)) rfl rfl (fun _ => by cases ‹Option Nat› <;> rfl) (fun _ => by cases ‹Option Nat› <;> rfl) ?_
  replace acc := acc_arr (a := 188) (f := 57) acc (by simp) (by simp) (by decide) (fun k => by simp [xm_R])
  generalize L45 ++ [188] = L46 at acc ⊢
  generalize xa_zi T45 188 = T46 at acc ⊢
  generalize xa_upr (xa_zr R45 188) 130 57 (some 188) = R46 at acc ⊢
  refine xa_aload_n (pc := 391) dX8_init_391 rfl ?_
  refine xa_sipush (pc := 392) (v := 1536) dX8_init_392 (by decide) ?_
  refine xa_newI (pc := 395) 189 1536 dX8_init_395 (by decide) (by decide) rfl rfl (by decide) (acc_n acc (hnew 189 (by decide) (by decide)) (by simp)) (hnew 189 (by decide) (by decide)) (by simp) (by simp) (acc_fr acc (hnew 189 (by decide) (by decide)) (by simp)) (by decide) (by decide) ?_
  refine xa_putRF (pc := 397) (some 189) 8 58 lpX8_149 dX8_init_397 rfl (List.mem_append_left _ (acc_m acc hm)) rfl rfl (fun _ => by cases ‹Option Nat› <;> rfl) (fun _ => by cases ‹Option Nat› <;> rfl) ?_
  replace acc := acc_arr (a := 189) (f := 58) acc (by simp) (by simp) (by decide) (fun k => by simp [xm_R])
  generalize L46 ++ [189] = L47 at acc ⊢
  generalize xa_zi T46 189 = T47 at acc ⊢
  generalize xa_upr (xa_zr R46 189) 130 58 (some 189) = R47 at acc ⊢
  refine xa_aload_n (pc := 400) dX8_init_400 rfl ?_
  refine xa_sipush (pc := 401) (v := 1536) dX8_init_401 (by decide) ?_
  refine xa_newI (pc := 404) 190 1536 dX8_init_404 (by decide) (by decide) rfl rfl (by decide) (acc_n acc (hnew 190 (by decide) (by decide)) (by simp)) (hnew 190 (by decide) (by decide)) (by simp) (by simp) (acc_fr acc (hnew 190 (by decide) (by decide)) (by simp)) (by decide) (by decide) ?_
  refine xa_putRF (pc := 406) (some 190) 8 59 lpX8_152 dX8_init_406 rfl (List.mem_append_left _ (acc_m acc hm)) rfl rfl (fun _ => by cases ‹Option Nat› <;> rfl) (fun _ => by cases ‹Option Nat› <;> rfl) ?_
  replace acc := acc_arr (a := 190) (f := 59) acc (by simp) (by simp) (by decide) (fun k => by simp [xm_R])
  generalize L47 ++ [190] = L48 at acc ⊢
  generalize xa_zi T47 190 = T48 at acc ⊢
  generalize xa_upr (xa_zr R47 190) 130 59 (some 190) = R48 at acc ⊢
  refine xa_iconst (pc := 409) (v := 0) dX8_init_409 (by decide) ?_
  refine xa_istore_n (pc := 410) dX8_init_410 (by decide) ?_
  exact lm_i8 E (acc_m acc hm) (by rw [acc.1]; exact List.mem_append_right _ (by simp)) ((acc.2.2.2.2.1 32).trans (by decide)) ⟨rfl, _, acc, rfl⟩ 0 (Nat.zero_le _)
