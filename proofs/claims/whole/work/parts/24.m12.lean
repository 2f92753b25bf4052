theorem xm_open_s {nh ns : Nat} {S : xa_AH} {s : Int32} (g : xm_open nh ns S s = true) : xm_isH ns s = true := by
  rw [xm_open, Bool.and_eq_true] at g; exact g.1
def xm_drop (nh ns : Nat) (S : xa_AH) (s : Int32) : Bool × xa_AH := if (xm_open nh ns S s) = true then (true, xm_goes S (xc s) 1) else (false, S)
set_option maxHeartbeats 4000000 in
theorem cm_drop (E : xa_EV) (S : xa_AH) {nh ns : Nat} (hW : xm_wf nh ns S) (s : Int32) : xa_Ct E mX8_drop [.ref 130, .int s] xm_L S xm_R (xa_pR (.int (xa_b (xm_drop nh ns S s).1)) (xm_drop nh ns S s).2 xm_R) := by
  refine xa_Ct.of [some (.ref 130), some (.int s)] rfl (Nat.le_of_ble_eq_true rfl) (by simp [Value.category]) rfl ?_
  obtain ⟨w1, w2, w3, w4, w5⟩ := id hW
  refine xa_aload_n (pc := 0) dX8_drop_0 rfl ?_
  refine xa_iload_n (pc := 1) dX8_drop_1 rfl ?_
  refine xa_callV (pc := 2) xm_o rfl rfl lcX8_197 dX8_drop_2 (cm_isOpen E _ hW _) rfl rfl (by decide) (Nat.le_of_ble_eq_true rfl) (by decide) ?_
  rintro _ _ _ ⟨rfl, rfl, rfl⟩
  refine xa_if_ne (pc := 5) 10 dX8_drop_5 (by decide) (fun h5 => ?_) (fun h5 => ?_)
  · have h5 := xa_b_n0.mp h5
    have hv1 := (xm_isH_t (by omega)).mp (xm_open_s h5)
    have hb1 : xc s < ns := xa_in_lt hv1
    refine xa_aload_n (pc := 10) dX8_drop_10 rfl ?_
    refine xa_iload_n (pc := 11) dX8_drop_11 rfl ?_
    refine xa_iconst (pc := 12) (v := 1) dX8_drop_12 (by decide) ?_
    refine xa_callV (pc := 13) xm_o rfl rfl lcX8_200 dX8_drop_13 (cm_goes E _ (s := (xc s)) (xa_in_eq hv1) (by omega) _) rfl rfl (by decide) (Nat.le_of_ble_eq_true rfl) (by decide) ?_
    rintro _ _ _ ⟨rfl, rfl, rfl⟩
    refine xa_iconst (pc := 16) (v := 1) dX8_drop_16 (by decide) ?_
    rw [show xm_drop nh ns S s = _ from if_pos (by simp [h5])]
    exact xa_zret dX8_drop_17 rfl (by decide) ⟨rfl, rfl, rfl⟩
  · have h5 := xa_b_0.mp h5
    refine xa_iconst (pc := 8) (v := 0) dX8_drop_8 (by decide) ?_
    rw [show xm_drop nh ns S s = _ from if_neg (by simp [h5])]
    exact xa_zret dX8_drop_9 rfl (by decide) ⟨rfl, rfl, rfl⟩
def xm_wake (nh ns : Nat) (S : xa_AH) (h : Int32) : Bool × xa_AH := if (xm_isH nh h && decide (S 136 (xc h) = 1)) = true then (true, xm_wakes S (xc h)) else (false, S)
set_option maxHeartbeats 4000000 in
theorem cm_wake (E : xa_EV) (S : xa_AH) {nh ns : Nat} (hW : xm_wf nh ns S) (h : Int32) : xa_Ct E mX8_wake [.ref 130, .int h] xm_L S xm_R (xa_pR (.int (xa_b (xm_wake nh ns S h).1)) (xm_wake nh ns S h).2 xm_R) := by
  refine xa_Ct.of [some (.ref 130), some (.int h)] rfl (Nat.le_of_ble_eq_true rfl) (by simp [Value.category]) rfl ?_
  obtain ⟨w1, w2, w3, w4, w5⟩ := id hW
  refine xa_aload_n (pc := 0) dX8_wake_0 rfl ?_
  refine xa_iload_n (pc := 1) dX8_wake_1 rfl ?_
  refine xa_callV (pc := 2) xm_o rfl rfl lcX8_163 dX8_wake_2 (cm_isHost E _ hW _) rfl rfl (by decide) (Nat.le_of_ble_eq_true rfl) (by decide) ?_
  rintro _ _ _ ⟨rfl, rfl, rfl⟩
  refine xa_if_eq (pc := 5) 18 dX8_wake_5 (by decide) (fun h5 => ?_) (fun h5 => ?_)
  · have h5 := xa_b_0.mp h5
    refine xa_iconst (pc := 18) (v := 0) dX8_wake_18 (by decide) ?_
    rw [show xm_wake nh ns S h = _ from if_neg (by simp [h5])]
    exact xa_zret dX8_wake_19 rfl (by decide) ⟨rfl, rfl, rfl⟩
  · have h5 := xa_b_n0.mp h5
    have hv1 := (xm_isH_t (by omega)).mp h5
    have hb1 : xc h < nh := xa_in_lt hv1
    refine xa_aload_n (pc := 8) dX8_wake_8 rfl ?_
    refine xa_getA (pc := 9) 8 5 136 lfX8_25 dX8_wake_9 xm_o rfl rfl rfl ?_
    refine xa_iload_n (pc := 12) dX8_wake_12 rfl ?_
    refine xa_ialdN (pc := 13) (xc h) dX8_wake_13 xm_136 rfl (xa_in_eq hv1) (by show _ < 12; omega) (by decide) ?_
    refine xa_iconst (pc := 14) (v := 1) dX8_wake_14 (by decide) ?_
    refine xa_icmp_eq (pc := 15) 20 dX8_wake_15 (by decide) (fun h15 => ?_) (fun h15 => ?_)
    · refine xa_aload_n (pc := 20) dX8_wake_20 rfl ?_
      refine xa_iload_n (pc := 21) dX8_wake_21 rfl ?_
      refine xa_callV (pc := 22) xm_o rfl rfl lcX8_208 dX8_wake_22 (cm_wakes E _ (h := (xc h)) (xa_in_eq hv1) (by omega)) rfl rfl (by decide) (Nat.le_of_ble_eq_true rfl) (by decide) ?_
      rintro _ _ _ ⟨rfl, rfl, rfl⟩
      refine xa_iconst (pc := 25) (v := 1) dX8_wake_25 (by decide) ?_
      rw [show xm_wake nh ns S h = _ from if_pos (by simp [h5, h15])]
      exact xa_zret dX8_wake_26 rfl (by decide) ⟨rfl, rfl, rfl⟩
    · refine xa_iconst (pc := 18) (v := 0) dX8_wake_18 (by decide) ?_
      rw [show xm_wake nh ns S h = _ from if_neg (by simp [h5, h15])]
      exact xa_zret dX8_wake_19 rfl (by decide) ⟨rfl, rfl, rfl⟩
def xm_lose (nh ns : Nat) (S : xa_AH) (h n : Int32) : Bool × xa_AH := if (xm_isH nh h && xm_in n 0 100) = true then (true, xa_up S 143 (xc h) n) else (false, S)
set_option maxHeartbeats 4000000 in
theorem cm_lose (E : xa_EV) (S : xa_AH) {nh ns : Nat} (hW : xm_wf nh ns S) (h n : Int32) : xa_Ct E mX8_lose [.ref 130, .int h, .int n] xm_L S xm_R (xa_pR (.int (xa_b (xm_lose nh ns S h n).1)) (xm_lose nh ns S h n).2 xm_R) := by
  refine xa_Ct.of [some (.ref 130), some (.int h), some (.int n)] rfl (Nat.le_of_ble_eq_true rfl) (by simp [Value.category]) rfl ?_
  obtain ⟨w1, w2, w3, w4, w5⟩ := id hW
  refine xa_aload_n (pc := 0) dX8_lose_0 rfl ?_
  refine xa_iload_n (pc := 1) dX8_lose_1 rfl ?_
  refine xa_callV (pc := 2) xm_o rfl rfl lcX8_163 dX8_lose_2 (cm_isHost E _ hW _) rfl rfl (by decide) (Nat.le_of_ble_eq_true rfl) (by decide) ?_
  rintro _ _ _ ⟨rfl, rfl, rfl⟩
  refine xa_if_eq (pc := 5) 18 dX8_lose_5 (by decide) (fun h5 => ?_) (fun h5 => ?_)
  · have h5 := xa_b_0.mp h5
    refine xa_iconst (pc := 18) (v := 0) dX8_lose_18 (by decide) ?_
    rw [show xm_lose nh ns S h n = _ from if_neg (by simp [h5])]
    exact xa_zret dX8_lose_19 rfl (by decide) ⟨rfl, rfl, rfl⟩
  · have h5 := xa_b_n0.mp h5
    have hv1 := (xm_isH_t (by omega)).mp h5
    have hb1 : xc h < nh := xa_in_lt hv1
    refine xa_iload_n (pc := 8) dX8_lose_8 rfl ?_
    refine xa_iconst (pc := 9) (v := 0) dX8_lose_9 (by decide) ?_
    refine xa_bipush (pc := 10) (v := 100) dX8_lose_10 (by decide) ?_
    refine xa_callS (pc := 12) lcX8_159 dX8_lose_12 (cm_in E _ _ _ _ _ _) rfl rfl (by decide) (Nat.le_of_ble_eq_true rfl) (by decide) ?_
    rintro _ _ _ ⟨rfl, rfl, rfl⟩
    refine xa_if_ne (pc := 15) 20 dX8_lose_15 (by decide) (fun h15 => ?_) (fun h15 => ?_)
    · have h15 := xa_b_n0.mp h15
      refine xa_aload_n (pc := 20) dX8_lose_20 rfl ?_
      refine xa_getA (pc := 21) 8 12 143 lfX8_47 dX8_lose_21 xm_o rfl rfl rfl ?_
      refine xa_iload_n (pc := 24) dX8_lose_24 rfl ?_
      refine xa_iload_n (pc := 25) dX8_lose_25 rfl ?_
      refine xa_iastN (pc := 26) (xc h) dX8_lose_26 xm_143 rfl (xa_in_eq hv1) (by show _ < 12; omega) (by decide) ?_
      refine xa_iconst (pc := 27) (v := 1) dX8_lose_27 (by decide) ?_
      rw [show xm_lose nh ns S h n = _ from if_pos (by simp [h5, h15])]
      exact xa_zret dX8_lose_28 rfl (by decide) ⟨rfl, rfl, rfl⟩
    · have h15 := xa_b_0.mp h15
      refine xa_iconst (pc := 18) (v := 0) dX8_lose_18 (by decide) ?_
      rw [show xm_lose nh ns S h n = _ from if_neg (by simp [h5, h15])]
      exact xa_zret dX8_lose_19 rfl (by decide) ⟨rfl, rfl, rfl⟩
def xm_deaf (nh ns : Nat) (S : xa_AH) (h n : Int32) : Bool × xa_AH := if (xm_isH nh h && xm_in n 0 100) = true then (true, xa_up S 144 (xc h) n) else (false, S)
set_option maxHeartbeats 4000000 in
theorem cm_deaf (E : xa_EV) (S : xa_AH) {nh ns : Nat} (hW : xm_wf nh ns S) (h n : Int32) : xa_Ct E mX8_deaf [.ref 130, .int h, .int n] xm_L S xm_R (xa_pR (.int (xa_b (xm_deaf nh ns S h n).1)) (xm_deaf nh ns S h n).2 xm_R) := by
  refine xa_Ct.of [some (.ref 130), some (.int h), some (.int n)] rfl (Nat.le_of_ble_eq_true rfl) (by simp [Value.category]) rfl ?_
  obtain ⟨w1, w2, w3, w4, w5⟩ := id hW
  refine xa_aload_n (pc := 0) dX8_deaf_0 rfl ?_
  refine xa_iload_n (pc := 1) dX8_deaf_1 rfl ?_
  refine xa_callV (pc := 2) xm_o rfl rfl lcX8_163 dX8_deaf_2 (cm_isHost E _ hW _) rfl rfl (by decide) (Nat.le_of_ble_eq_true rfl) (by decide) ?_
  rintro _ _ _ ⟨rfl, rfl, rfl⟩
  refine xa_if_eq (pc := 5) 18 dX8_deaf_5 (by decide) (fun h5 => ?_) (fun h5 => ?_)
  · have h5 := xa_b_0.mp h5
    refine xa_iconst (pc := 18) (v := 0) dX8_deaf_18 (by decide) ?_
    rw [show xm_deaf nh ns S h n = _ from if_neg (by simp [h5])]
    exact xa_zret dX8_deaf_19 rfl (by decide) ⟨rfl, rfl, rfl⟩
  · have h5 := xa_b_n0.mp h5
    have hv1 := (xm_isH_t (by omega)).mp h5
    have hb1 : xc h < nh := xa_in_lt hv1
    refine xa_iload_n (pc := 8) dX8_deaf_8 rfl ?_
    refine xa_iconst (pc := 9) (v := 0) dX8_deaf_9 (by decide) ?_
    refine xa_bipush (pc := 10) (v := 100) dX8_deaf_10 (by decide) ?_
    refine xa_callS (pc := 12) lcX8_159 dX8_deaf_12 (cm_in E _ _ _ _ _ _) rfl rfl (by decide) (Nat.le_of_ble_eq_true rfl) (by decide) ?_
    rintro _ _ _ ⟨rfl, rfl, rfl⟩
    refine xa_if_ne (pc := 15) 20 dX8_deaf_15 (by decide) (fun h15 => ?_) (fun h15 => ?_)
    · have h15 := xa_b_n0.mp h15
      refine xa_aload_n (pc := 20) dX8_deaf_20 rfl ?_
      refine xa_getA (pc := 21) 8 13 144 lfX8_50 dX8_deaf_21 xm_o rfl rfl rfl ?_
      refine xa_iload_n (pc := 24) dX8_deaf_24 rfl ?_
      refine xa_iload_n (pc := 25) dX8_deaf_25 rfl ?_
      refine xa_iastN (pc := 26) (xc h) dX8_deaf_26 xm_144 rfl (xa_in_eq hv1) (by show _ < 12; omega) (by decide) ?_
      refine xa_iconst (pc := 27) (v := 1) dX8_deaf_27 (by decide) ?_
      rw [show xm_deaf nh ns S h n = _ from if_pos (by simp [h5, h15])]
      exact xa_zret dX8_deaf_28 rfl (by decide) ⟨rfl, rfl, rfl⟩
    · have h15 := xa_b_0.mp h15
      refine xa_iconst (pc := 18) (v := 0) dX8_deaf_18 (by decide) ?_
      rw [show xm_deaf nh ns S h n = _ from if_neg (by simp [h5, h15])]
      exact xa_zret dX8_deaf_19 rfl (by decide) ⟨rfl, rfl, rfl⟩
def xm_keeper (nh ns : Nat) (S : xa_AH) (h : Int32) (bq : Bool) : Bool × xa_AH := if (xm_up nh S h && (decide (S 139 (xc h) = 0) && decide (¬ S 138 (xc h) = xa_b bq))) = true then (true, xa_up S 138 (xc h) (xa_b bq)) else (false, S)
set_option maxHeartbeats 4000000 in
theorem cm_keeper (E : xa_EV) (S : xa_AH) {nh ns : Nat} (hW : xm_wf nh ns S) (h : Int32) (bq : Bool) : xa_Ct E mX8_keeper [.ref 130, .int h, .int (xa_b bq)] xm_L S xm_R (xa_pR (.int (xa_b (xm_keeper nh ns S h bq).1)) (xm_keeper nh ns S h bq).2 xm_R) := by
  refine xa_Ct.of [some (.ref 130), some (.int h), some (.int (xa_b bq))] rfl (Nat.le_of_ble_eq_true rfl) (by simp [Value.category]) rfl ?_
  obtain ⟨w1, w2, w3, w4, w5⟩ := id hW
  refine xa_aload_n (pc := 0) dX8_keeper_0 rfl ?_
  refine xa_iload_n (pc := 1) dX8_keeper_1 rfl ?_
  refine xa_callV (pc := 2) xm_o rfl rfl lcX8_173 dX8_keeper_2 (cm_isUp E _ hW _) rfl rfl (by decide) (Nat.le_of_ble_eq_true rfl) (by decide) ?_
  rintro _ _ _ ⟨rfl, rfl, rfl⟩
  refine xa_if_eq (pc := 5) 27 dX8_keeper_5 (by decide) (fun h5 => ?_) (fun h5 => ?_)
  · have h5 := xa_b_0.mp h5
    refine xa_iconst (pc := 27) (v := 0) dX8_keeper_27 (by decide) ?_
    rw [show xm_keeper nh ns S h bq = _ from if_neg (by simp [h5])]
    exact xa_zret dX8_keeper_28 rfl (by decide) ⟨rfl, rfl, rfl⟩
  · have h5 := xa_b_n0.mp h5
    have hv1 := (xm_isH_t (by omega)).mp (xm_up_h h5)
    have hb1 : xc h < nh := xa_in_lt hv1
    refine xa_aload_n (pc := 8) dX8_keeper_8 rfl ?_
    refine xa_getA (pc := 9) 8 8 139 lfX8_35 dX8_keeper_9 xm_o rfl rfl rfl ?_
    refine xa_iload_n (pc := 12) dX8_keeper_12 rfl ?_
    refine xa_zaldN (pc := 13) (xc h) dX8_keeper_13 xm_139 rfl (xa_in_eq hv1) (by show _ < 12; omega) (by decide) ?_
    refine xa_if_ne (pc := 14) 27 dX8_keeper_14 (by decide) (fun h14 => ?_) (fun h14 => ?_)
    · refine xa_iconst (pc := 27) (v := 0) dX8_keeper_27 (by decide) ?_
      rw [show xm_keeper nh ns S h bq = _ from if_neg (by simp [h5, h14])]
      exact xa_zret dX8_keeper_28 rfl (by decide) ⟨rfl, rfl, rfl⟩
    · refine xa_aload_n (pc := 17) dX8_keeper_17 rfl ?_
      refine xa_getA (pc := 18) 8 7 138 lfX8_32 dX8_keeper_18 xm_o rfl rfl rfl ?_
      refine xa_iload_n (pc := 21) dX8_keeper_21 rfl ?_
      refine xa_zaldN (pc := 22) (xc h) dX8_keeper_22 xm_138 rfl (xa_in_eq hv1) (by show _ < 12; omega) (by decide) ?_
      refine xa_iload_n (pc := 23) dX8_keeper_23 rfl ?_
      refine xa_icmp_ne (pc := 24) 29 dX8_keeper_24 (by decide) (fun h24 => ?_) (fun h24 => ?_)
      · refine xa_aload_n (pc := 29) dX8_keeper_29 rfl ?_
        refine xa_getA (pc := 30) 8 7 138 lfX8_32 dX8_keeper_30 xm_o rfl rfl rfl ?_
        refine xa_iload_n (pc := 33) dX8_keeper_33 rfl ?_
        refine xa_iload_n (pc := 34) dX8_keeper_34 rfl ?_
        refine xa_zastN (pc := 35) (xc h) dX8_keeper_35 xm_138 rfl (xa_in_eq hv1) (by show _ < 12; omega) (by decide) (by first | rfl | exact xa_b_vp _ | assumption) ?_
        refine xa_iconst (pc := 36) (v := 1) dX8_keeper_36 (by decide) ?_
        rw [show xm_keeper nh ns S h bq = _ from if_pos (by simp [h5, h14, h24])]
        exact xa_zret dX8_keeper_37 rfl (by decide) ⟨rfl, rfl, rfl⟩
      · refine xa_iconst (pc := 27) (v := 0) dX8_keeper_27 (by decide) ?_
        rw [show xm_keeper nh ns S h bq = _ from if_neg (by simp [h5, h14, h24])]
        exact xa_zret dX8_keeper_28 rfl (by decide) ⟨rfl, rfl, rfl⟩
def xm_change (nh ns : Nat) (S : xa_AH) (s m : Int32) : Bool × xa_AH := if (xm_open nh ns S s && xm_in m 0 255) = true then (true, (if S 151 (xc s) = 2 then xa_up (xa_up S 149 (xc s) m) 153 (xc s) (S 130 36) else xa_up S 149 (xc s) m)) else (false, S)
set_option maxHeartbeats 4000000 in
theorem cm_change (E : xa_EV) (S : xa_AH) {nh ns : Nat} (hW : xm_wf nh ns S) (s m : Int32) : xa_Ct E mX8_change [.ref 130, .int s, .int m] xm_L S xm_R (xa_pR (.int (xa_b (xm_change nh ns S s m).1)) (xm_change nh ns S s m).2 xm_R) := by
  refine xa_Ct.of [some (.ref 130), some (.int s), some (.int m)] rfl (Nat.le_of_ble_eq_true rfl) (by simp [Value.category]) rfl ?_
  obtain ⟨w1, w2, w3, w4, w5⟩ := id hW
  refine xa_aload_n (pc := 0) dX8_change_0 rfl ?_
  refine xa_iload_n (pc := 1) dX8_change_1 rfl ?_
  refine xa_callV (pc := 2) xm_o rfl rfl lcX8_197 dX8_change_2 (cm_isOpen E _ hW _) rfl rfl (by decide) (Nat.le_of_ble_eq_true rfl) (by decide) ?_
  rintro _ _ _ ⟨rfl, rfl, rfl⟩
  refine xa_if_eq (pc := 5) 19 dX8_change_5 (by decide) (fun h5 => ?_) (fun h5 => ?_)
  · have h5 := xa_b_0.mp h5
    refine xa_iconst (pc := 19) (v := 0) dX8_change_19 (by decide) ?_
    rw [show xm_change nh ns S s m = _ from if_neg (by simp [h5])]
    exact xa_zret dX8_change_20 rfl (by decide) ⟨rfl, rfl, rfl⟩
  · have h5 := xa_b_n0.mp h5
    have hv1 := (xm_isH_t (by omega)).mp (xm_open_s h5)
    have hb1 : xc s < ns := xa_in_lt hv1
    refine xa_iload_n (pc := 8) dX8_change_8 rfl ?_
    refine xa_iconst (pc := 9) (v := 0) dX8_change_9 (by decide) ?_
    refine xa_sipush (pc := 10) (v := 255) dX8_change_10 (by decide) ?_
    refine xa_callS (pc := 13) lcX8_159 dX8_change_13 (cm_in E _ _ _ _ _ _) rfl rfl (by decide) (Nat.le_of_ble_eq_true rfl) (by decide) ?_
    rintro _ _ _ ⟨rfl, rfl, rfl⟩
    refine xa_if_ne (pc := 16) 21 dX8_change_16 (by decide) (fun h16 => ?_) (fun h16 => ?_)
    · have h16 := xa_b_n0.mp h16
      refine xa_aload_n (pc := 21) dX8_change_21 rfl ?_
      refine xa_getA (pc := 22) 8 18 149 lfX8_62 dX8_change_22 xm_o rfl rfl rfl ?_
      refine xa_iload_n (pc := 25) dX8_change_25 rfl ?_
      refine xa_iload_n (pc := 26) dX8_change_26 rfl ?_
      refine xa_iastN (pc := 27) (xc s) dX8_change_27 xm_149 rfl (xa_in_eq hv1) (by show _ < 32; omega) (by decide) ?_
      refine xa_aload_n (pc := 28) dX8_change_28 rfl ?_
      refine xa_getA (pc := 29) 8 20 151 lfX8_68 dX8_change_29 xm_o rfl rfl rfl ?_
      refine xa_iload_n (pc := 32) dX8_change_32 rfl ?_
      refine xa_ialdN (pc := 33) (xc s) dX8_change_33 xm_151 rfl (xa_in_eq hv1) (by show _ < 32; omega) (by decide) ?_
      refine xa_iconst (pc := 34) (v := 2) dX8_change_34 (by decide) ?_
      refine xa_icmp_ne (pc := 35) 48 dX8_change_35 (by decide) (fun h35 => ?_) (fun h35 => ?_)
      · refine xa_iconst (pc := 48) (v := 1) dX8_change_48 (by decide) ?_
        rw [show xm_change nh ns S s m = _ from if_pos (by simp [h5, h16, h35])]
        exact xa_zret dX8_change_49 rfl (by decide) ⟨rfl, if_neg h35, rfl⟩
      · refine xa_aload_n (pc := 38) dX8_change_38 rfl ?_
        refine xa_getA (pc := 39) 8 22 153 lfX8_74 dX8_change_39 xm_o rfl rfl rfl ?_
        refine xa_iload_n (pc := 42) dX8_change_42 rfl ?_
        refine xa_aload_n (pc := 43) dX8_change_43 rfl ?_
        refine xa_getI (pc := 44) 8 36 lfX8_191 dX8_change_44 xm_o rfl rfl ?_
        refine xa_iastN (pc := 47) (xc s) dX8_change_47 xm_153 rfl (xa_in_eq hv1) (by show _ < 32; omega) (by decide) ?_
        refine xa_iconst (pc := 48) (v := 1) dX8_change_48 (by decide) ?_
        rw [show xm_change nh ns S s m = _ from if_pos (by simp [h5, h16, h35])]
        exact xa_zret dX8_change_49 rfl (by decide) ⟨rfl, if_pos h35, rfl⟩
    · have h16 := xa_b_0.mp h16
      refine xa_iconst (pc := 19) (v := 0) dX8_change_19 (by decide) ?_
      rw [show xm_change nh ns S s m = _ from if_neg (by simp [h5, h16])]
      exact xa_zret dX8_change_20 rfl (by decide) ⟨rfl, rfl, rfl⟩
