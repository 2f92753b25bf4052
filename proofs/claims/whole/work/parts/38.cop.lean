def PX (nh ns k : Nat) (pw : Nat → Nat) (L : List Nat) (v : Value) (S : xa_AH) : Option Value → xa_AH → xa_AR → Prop := fun r T R => some v = r ∧ RX nh ns k pw L T R S
def PV (nh ns k : Nat) (pw : Nat → Nat) (L : List Nat) (S : xa_AH) : Option Value → xa_AH → xa_AR → Prop := fun r T R => none = r ∧ RX nh ns k pw L T R S
theorem vin_100 {n : Int32} (h0 : ¬ n < 0) (h1 : n ≤ 100) : vp_in n 101 := by
  rw [vp_in_iff]
  simp only [fa_lt, fa_le] at h0 h1
  have e : (0 : Int32).toInt = 0 := rfl
  have e1 : (100 : Int32).toInt = 100 := rfl
  rw [e] at h0; rw [e1] at h1; omega
theorem hlp_and {nh : Nat} {S : xa_AH} {h : Int32} {c : Bool} : (xm_up nh S h && (decide (S 139 (xc h) = 0) && c)) = (xm_hlp nh S h && c) := by rw [xm_hlp, Bool.and_assoc]
theorem RX.x1 {nh ns k : Nat} {pw : Nat → Nat} {L : List Nat} {T : xa_AH} {R : xa_AR} {S : xa_AH} (hX : RX nh ns k pw L T R S) {h : Nat} (hh : h < nh) : (S 136 h = 1) = (xs S h = 1) := by
  rw [xs1]
  apply propext
  constructor
  · intro g
    refine ⟨g, ?_⟩
    rcases hX.ih_lv hh with q | q
    · exact q
    · rw [q.2] at g; exact absurd g (by decide)
  · exact fun g => g.1
theorem RX.x0 {nh ns k : Nat} {pw : Nat → Nat} {L : List Nat} {T : xa_AH} {R : xa_AR} {S : xa_AH} (hX : RX nh ns k pw L T R S) {h : Nat} (hh : h < nh) : (S 136 h = 0) = (xs S h = 0) := by
  rw [xs0]
  apply propext
  constructor
  · intro g
    refine ⟨g, ?_⟩
    rcases hX.ih_lv hh with q | q
    · exact q
    · rw [q.2] at g; exact absurd g (by decide)
  · exact fun g => g.1
theorem b01 (b : Bool) : xa_b b = 0 ∨ xa_b b = 1 := by cases b <;> decide
set_option maxHeartbeats 4000000 in
theorem cx_lose (E : xa_EV) {L : List Nat} {T : xa_AH} {R : xa_AR} {nh ns k : Nat} {pw : Nat → Nat} {S : xa_AH} (hX : RX nh ns k pw L T R S) (h n : Int32) : xa_Ct E mX7_lose [.ref (ci 0 129), .int h, .int n] L T R (PX nh ns k pw L (.int (xa_b (xm_lose nh ns S h n).1)) (xm_lose nh ns S h n).2) := by
  refine xa_Ct.of [some (.ref (ci 0 129)), some (.int h), some (.int n), none] rfl (Nat.le_of_ble_eq_true rfl) (by simp [Value.category]) rfl ?_
  have n12 := hX.n12
  have n32 := hX.n32
  refine xa_aload_n (pc := 0) dX7_lose_0 rfl ?_
  refine xa_iload_n (pc := 1) dX7_lose_1 rfl ?_
  refine xa_callV (pc := 2) hX.c_m129 (kd_129 _) rfl lcX7_100 dX7_lose_2 (cx_hostAt E hX _) rfl rfl (by decide) (Nat.le_of_ble_eq_true rfl) (by decide) ?_
  rintro _ _ _ ⟨⟨hq2, rfl⟩ | ⟨hq2, rfl⟩, rfl, rfl⟩
  · refine xa_astore_n (pc := 5) dX7_lose_5 (by decide) ?_
    refine xa_aload_n (pc := 6) dX7_lose_6 rfl ?_
    refine xa_ifnull_ref (pc := 7) dX7_lose_7 ?_
    refine xa_iload_n (pc := 10) dX7_lose_10 rfl ?_
    refine xa_if_lt (pc := 11) 20 dX7_lose_11 (by decide) (fun h11 => ?_) (fun h11 => ?_)
    · refine xa_iconst (pc := 20) (v := 0) dX7_lose_20 (by decide) ?_
      rw [show xm_lose nh ns S h n = _ from if_neg (by simp [xm_in, hq2, h11, Int32.not_le.mpr h11])]
      exact xa_zret dX7_lose_21 rfl (by decide) ⟨rfl, hX⟩
    · refine xa_iload_n (pc := 14) dX7_lose_14 rfl ?_
      refine xa_bipush (pc := 15) (v := 100) dX7_lose_15 (by decide) ?_
      refine xa_icmp_le (pc := 17) 22 dX7_lose_17 (by decide) (fun h17 => ?_) (fun h17 => ?_)
      · refine xa_aload_n (pc := 22) dX7_lose_22 rfl ?_
        refine xa_iload_n (pc := 23) dX7_lose_23 rfl ?_
        refine xa_putI (pc := 24) 3 12 lpX7_159 dX7_lose_24 ((hX.hS (isH_lt hX.h100 hq2)).1 0 (by decide)) (kd_0 _) rfl rfl rfl ?_
        refine xa_iconst (pc := 27) (v := 1) dX7_lose_27 (by decide) ?_
        rw [show xm_lose nh ns S h n = _ from if_pos (by simp [xm_in, hq2, h11, Int32.not_lt.mp h11, h17, Int32.not_lt.mpr h17])]
        exact xa_zret dX7_lose_28 rfl (by decide) ⟨rfl, rx_lose hX (isH_lt hX.h100 hq2) (vin_100 h11 h17)⟩
      · refine xa_iconst (pc := 20) (v := 0) dX7_lose_20 (by decide) ?_
        rw [show xm_lose nh ns S h n = _ from if_neg (by simp [xm_in, hq2, h11, Int32.not_lt.mp h11, h17, Int32.not_le.mp h17])]
        exact xa_zret dX7_lose_21 rfl (by decide) ⟨rfl, hX⟩
  · refine xa_astore_nN (pc := 5) dX7_lose_5 (by decide) ?_
    refine xa_aload_nN (pc := 6) dX7_lose_6 rfl ?_
    refine xa_ifnull_null (pc := 7) 20 dX7_lose_7 (by decide) ?_
    refine xa_iconst (pc := 20) (v := 0) dX7_lose_20 (by decide) ?_
    rw [show xm_lose nh ns S h n = _ from if_neg (by simp [xm_in, hq2])]
    exact xa_zret dX7_lose_21 rfl (by decide) ⟨rfl, hX⟩
set_option maxHeartbeats 4000000 in
theorem cx_deaf (E : xa_EV) {L : List Nat} {T : xa_AH} {R : xa_AR} {nh ns k : Nat} {pw : Nat → Nat} {S : xa_AH} (hX : RX nh ns k pw L T R S) (h n : Int32) : xa_Ct E mX7_deaf [.ref (ci 0 129), .int h, .int n] L T R (PX nh ns k pw L (.int (xa_b (xm_deaf nh ns S h n).1)) (xm_deaf nh ns S h n).2) := by
  refine xa_Ct.of [some (.ref (ci 0 129)), some (.int h), some (.int n), none] rfl (Nat.le_of_ble_eq_true rfl) (by simp [Value.category]) rfl ?_
  have n12 := hX.n12
  have n32 := hX.n32
  refine xa_aload_n (pc := 0) dX7_deaf_0 rfl ?_
  refine xa_iload_n (pc := 1) dX7_deaf_1 rfl ?_
  refine xa_callV (pc := 2) hX.c_m129 (kd_129 _) rfl lcX7_100 dX7_deaf_2 (cx_hostAt E hX _) rfl rfl (by decide) (Nat.le_of_ble_eq_true rfl) (by decide) ?_
  rintro _ _ _ ⟨⟨hq2, rfl⟩ | ⟨hq2, rfl⟩, rfl, rfl⟩
  · refine xa_astore_n (pc := 5) dX7_deaf_5 (by decide) ?_
    refine xa_aload_n (pc := 6) dX7_deaf_6 rfl ?_
    refine xa_ifnull_ref (pc := 7) dX7_deaf_7 ?_
    refine xa_iload_n (pc := 10) dX7_deaf_10 rfl ?_
    refine xa_if_lt (pc := 11) 20 dX7_deaf_11 (by decide) (fun h11 => ?_) (fun h11 => ?_)
    · refine xa_iconst (pc := 20) (v := 0) dX7_deaf_20 (by decide) ?_
      rw [show xm_deaf nh ns S h n = _ from if_neg (by simp [xm_in, hq2, h11, Int32.not_le.mpr h11])]
      exact xa_zret dX7_deaf_21 rfl (by decide) ⟨rfl, hX⟩
    · refine xa_iload_n (pc := 14) dX7_deaf_14 rfl ?_
      refine xa_bipush (pc := 15) (v := 100) dX7_deaf_15 (by decide) ?_
      refine xa_icmp_le (pc := 17) 22 dX7_deaf_17 (by decide) (fun h17 => ?_) (fun h17 => ?_)
      · refine xa_aload_n (pc := 22) dX7_deaf_22 rfl ?_
        refine xa_iload_n (pc := 23) dX7_deaf_23 rfl ?_
        refine xa_putI (pc := 24) 3 13 lpX7_162 dX7_deaf_24 ((hX.hS (isH_lt hX.h100 hq2)).1 0 (by decide)) (kd_0 _) rfl rfl rfl ?_
        refine xa_iconst (pc := 27) (v := 1) dX7_deaf_27 (by decide) ?_
        rw [show xm_deaf nh ns S h n = _ from if_pos (by simp [xm_in, hq2, h11, Int32.not_lt.mp h11, h17, Int32.not_lt.mpr h17])]
        exact xa_zret dX7_deaf_28 rfl (by decide) ⟨rfl, rx_deaf hX (isH_lt hX.h100 hq2) (vin_100 h11 h17)⟩
      · refine xa_iconst (pc := 20) (v := 0) dX7_deaf_20 (by decide) ?_
        rw [show xm_deaf nh ns S h n = _ from if_neg (by simp [xm_in, hq2, h11, Int32.not_lt.mp h11, h17, Int32.not_le.mp h17])]
        exact xa_zret dX7_deaf_21 rfl (by decide) ⟨rfl, hX⟩
  · refine xa_astore_nN (pc := 5) dX7_deaf_5 (by decide) ?_
    refine xa_aload_nN (pc := 6) dX7_deaf_6 rfl ?_
    refine xa_ifnull_null (pc := 7) 20 dX7_deaf_7 (by decide) ?_
    refine xa_iconst (pc := 20) (v := 0) dX7_deaf_20 (by decide) ?_
    rw [show xm_deaf nh ns S h n = _ from if_neg (by simp [xm_in, hq2])]
    exact xa_zret dX7_deaf_21 rfl (by decide) ⟨rfl, hX⟩
set_option maxHeartbeats 4000000 in
theorem cx_keeper (E : xa_EV) {L : List Nat} {T : xa_AH} {R : xa_AR} {nh ns k : Nat} {pw : Nat → Nat} {S : xa_AH} (hX : RX nh ns k pw L T R S) (h : Int32) (bq : Bool) : xa_Ct E mX7_keeper [.ref (ci 0 129), .int h, .int (xa_b bq)] L T R (PX nh ns k pw L (.int (xa_b (xm_keeper nh ns S h bq).1)) (xm_keeper nh ns S h bq).2) := by
  refine xa_Ct.of [some (.ref (ci 0 129)), some (.int h), some (.int (xa_b bq)), none] rfl (Nat.le_of_ble_eq_true rfl) (by simp [Value.category]) rfl ?_
  have n12 := hX.n12
  have n32 := hX.n32
  refine xa_aload_n (pc := 0) dX7_keeper_0 rfl ?_
  refine xa_iload_n (pc := 1) dX7_keeper_1 rfl ?_
  refine xa_callV (pc := 2) hX.c_m129 (kd_129 _) rfl lcX7_35 dX7_keeper_2 (cx_stayingHelper E hX _) rfl rfl (by decide) (Nat.le_of_ble_eq_true rfl) (by decide) ?_
  rintro _ _ _ ⟨⟨hq2, rfl⟩ | ⟨hq2, rfl⟩, rfl, rfl⟩
  · refine xa_astore_n (pc := 5) dX7_keeper_5 (by decide) ?_
    refine xa_aload_n (pc := 6) dX7_keeper_6 rfl ?_
    refine xa_ifnull_ref (pc := 7) dX7_keeper_7 ?_
    refine xa_aload_n (pc := 10) dX7_keeper_10 rfl ?_
    refine xa_getIv (pc := 11) 3 9 _ lfX7_91 dX7_keeper_11 ((hX.hS (aw_lt hX.h100 (hlp_up hq2))).1 0 (by decide)) (kd_0 _) rfl (hX.h_isKeeper (aw_lt hX.h100 (hlp_up hq2))) ?_
    refine xa_iload_n (pc := 14) dX7_keeper_14 rfl ?_
    refine xa_icmp_ne (pc := 15) 20 dX7_keeper_15 (by decide) (fun h15 => ?_) (fun h15 => ?_)
    · refine xa_aload_n (pc := 20) dX7_keeper_20 rfl ?_
      refine xa_iload_n (pc := 21) dX7_keeper_21 rfl ?_
      refine xa_putI (pc := 22) 3 9 lpX7_91 dX7_keeper_22 ((hX.hS (aw_lt hX.h100 (hlp_up hq2))).1 0 (by decide)) (kd_0 _) rfl (xa_b_nar _) (xa_b_fit _) ?_
      refine xa_iconst (pc := 25) (v := 1) dX7_keeper_25 (by decide) ?_
      rw [show xm_keeper nh ns S h bq = _ from if_pos (by simp [hlp_up hq2, hlp_b hq2, hq2, h15])]
      exact xa_zret dX7_keeper_26 rfl (by decide) ⟨rfl, rx_keeper hX (aw_lt hX.h100 (hlp_up hq2)) (b01 bq)⟩
    · refine xa_iconst (pc := 18) (v := 0) dX7_keeper_18 (by decide) ?_
      rw [show xm_keeper nh ns S h bq = _ from if_neg (by simp [hlp_up hq2, hlp_b hq2, hq2, h15])]
      exact xa_zret dX7_keeper_19 rfl (by decide) ⟨rfl, hX⟩
  · refine xa_astore_nN (pc := 5) dX7_keeper_5 (by decide) ?_
    refine xa_aload_nN (pc := 6) dX7_keeper_6 rfl ?_
    refine xa_ifnull_null (pc := 7) 18 dX7_keeper_7 (by decide) ?_
    refine xa_iconst (pc := 18) (v := 0) dX7_keeper_18 (by decide) ?_
    rw [show xm_keeper nh ns S h bq = _ from if_neg (by simp [hlp_and, hq2])]
    exact xa_zret dX7_keeper_19 rfl (by decide) ⟨rfl, hX⟩
set_option maxHeartbeats 4000000 in
theorem cx_wake (E : xa_EV) {L : List Nat} {T : xa_AH} {R : xa_AR} {nh ns k : Nat} {pw : Nat → Nat} {S : xa_AH} (hX : RX nh ns k pw L T R S) (h : Int32) : xa_Ct E mX7_wake [.ref (ci 0 129), .int h] L T R (PX nh ns k pw L (.int (xa_b (xm_wake nh ns S h).1)) (xm_wake nh ns S h).2) := by
  refine xa_Ct.of [some (.ref (ci 0 129)), some (.int h), none] rfl (Nat.le_of_ble_eq_true rfl) (by simp [Value.category]) rfl ?_
  have n12 := hX.n12
  have n32 := hX.n32
  refine xa_aload_n (pc := 0) dX7_wake_0 rfl ?_
  refine xa_iload_n (pc := 1) dX7_wake_1 rfl ?_
  refine xa_callV (pc := 2) hX.c_m129 (kd_129 _) rfl lcX7_100 dX7_wake_2 (cx_hostAt E hX _) rfl rfl (by decide) (Nat.le_of_ble_eq_true rfl) (by decide) ?_
  rintro _ _ _ ⟨⟨hq2, rfl⟩ | ⟨hq2, rfl⟩, rfl, rfl⟩
  · refine xa_astore_n (pc := 5) dX7_wake_5 (by decide) ?_
    refine xa_aload_n (pc := 6) dX7_wake_6 rfl ?_
    refine xa_ifnull_ref (pc := 7) dX7_wake_7 ?_
    refine xa_aload_n (pc := 10) dX7_wake_10 rfl ?_
    refine xa_getIv (pc := 11) 3 8 _ lfX7_95 dX7_wake_11 ((hX.hS (isH_lt hX.h100 hq2)).1 0 (by decide)) (kd_0 _) rfl (hX.h_state (isH_lt hX.h100 hq2)) ?_
    refine xa_iconst (pc := 14) (v := 1) dX7_wake_14 (by decide) ?_
    refine xa_icmp_eq (pc := 15) 20 dX7_wake_15 (by decide) (fun h15 => ?_) (fun h15 => ?_)
    · refine xa_aload_n (pc := 20) dX7_wake_20 rfl ?_
      refine xa_iconst (pc := 21) (v := 2) dX7_wake_21 (by decide) ?_
      refine xa_putI (pc := 22) 3 8 lpX7_95 dX7_wake_22 ((hX.hS (isH_lt hX.h100 hq2)).1 0 (by decide)) (kd_0 _) rfl rfl rfl ?_
      refine xa_iconst (pc := 25) (v := 1) dX7_wake_25 (by decide) ?_
      rw [show xm_wake nh ns S h = _ from if_pos (by simp [hX.x1 (isH_lt hX.h100 hq2), hq2, h15])]
      exact xa_zret dX7_wake_26 rfl (by decide) ⟨rfl, rx_wake hX (isH_lt hX.h100 hq2) (xs1.mp h15).1⟩
    · refine xa_iconst (pc := 18) (v := 0) dX7_wake_18 (by decide) ?_
      rw [show xm_wake nh ns S h = _ from if_neg (by simp [hX.x1 (isH_lt hX.h100 hq2), hq2, h15])]
      exact xa_zret dX7_wake_19 rfl (by decide) ⟨rfl, hX⟩
  · refine xa_astore_nN (pc := 5) dX7_wake_5 (by decide) ?_
    refine xa_aload_nN (pc := 6) dX7_wake_6 rfl ?_
    refine xa_ifnull_null (pc := 7) 18 dX7_wake_7 (by decide) ?_
    refine xa_iconst (pc := 18) (v := 0) dX7_wake_18 (by decide) ?_
    rw [show xm_wake nh ns S h = _ from if_neg (by simp [xm_in, hq2])]
    exact xa_zret dX7_wake_19 rfl (by decide) ⟨rfl, hX⟩
set_option maxHeartbeats 4000000 in
theorem cx_drop (E : xa_EV) {L : List Nat} {T : xa_AH} {R : xa_AR} {nh ns k : Nat} {pw : Nat → Nat} {S : xa_AH} (hX : RX nh ns k pw L T R S) (s : Int32) : xa_Ct E mX7_drop [.ref (ci 0 129), .int s] L T R (PX nh ns k pw L (.int (xa_b (xm_drop nh ns S s).1)) (xm_drop nh ns S s).2) := by
  refine xa_Ct.of [some (.ref (ci 0 129)), some (.int s), none] rfl (Nat.le_of_ble_eq_true rfl) (by simp [Value.category]) rfl ?_
  have n12 := hX.n12
  have n32 := hX.n32
  refine xa_aload_n (pc := 0) dX7_drop_0 rfl ?_
  refine xa_iload_n (pc := 1) dX7_drop_1 rfl ?_
  refine xa_callV (pc := 2) hX.c_m129 (kd_129 _) rfl lcX7_46 dX7_drop_2 (cx_serviceInCare E hX _) rfl rfl (by decide) (Nat.le_of_ble_eq_true rfl) (by decide) ?_
  rintro _ _ _ ⟨⟨hq2, rfl⟩ | ⟨hq2, rfl⟩, rfl, rfl⟩
  · refine xa_astore_n (pc := 5) dX7_drop_5 (by decide) ?_
    refine xa_aload_n (pc := 6) dX7_drop_6 rfl ?_
    refine xa_ifnonnull_ref (pc := 7) 12 dX7_drop_7 (by decide) ?_
    refine xa_aload_n (pc := 12) dX7_drop_12 rfl ?_
    refine xa_callV (pc := 13) (hX.sM (isH_lt hX.s100 (xm_open_s hq2))) (kd_128 _) rfl lcX7_50 dX7_drop_13 (cx_end E (hX.sM (isH_lt hX.s100 (xm_open_s hq2)))) rfl rfl (by decide) (Nat.le_of_ble_eq_true rfl) (by decide) ?_
    rintro _ _ _ ⟨rfl, rfl, rfl⟩
    refine xa_iconst (pc := 16) (v := 1) dX7_drop_16 (by decide) ?_
    rw [show xm_drop nh ns S s = _ from if_pos (by simp [xm_in, hq2])]
    exact xa_zret dX7_drop_17 rfl (by decide) ⟨rfl, rx_end hX (isH_lt hX.s100 (xm_open_s hq2))⟩
  · refine xa_astore_nN (pc := 5) dX7_drop_5 (by decide) ?_
    refine xa_aload_nN (pc := 6) dX7_drop_6 rfl ?_
    refine xa_ifnonnull_null (pc := 7) dX7_drop_7 ?_
    refine xa_iconst (pc := 10) (v := 0) dX7_drop_10 (by decide) ?_
    rw [show xm_drop nh ns S s = _ from if_neg (by simp [xm_in, hq2])]
    exact xa_zret dX7_drop_11 rfl (by decide) ⟨rfl, hX⟩
set_option maxHeartbeats 4000000 in
theorem cx_change (E : xa_EV) {L : List Nat} {T : xa_AH} {R : xa_AR} {nh ns k : Nat} {pw : Nat → Nat} {S : xa_AH} (hX : RX nh ns k pw L T R S) (s m : Int32) : xa_Ct E mX7_change [.ref (ci 0 129), .int s, .int m] L T R (PX nh ns k pw L (.int (xa_b (xm_change nh ns S s m).1)) (xm_change nh ns S s m).2) := by
  refine xa_Ct.of [some (.ref (ci 0 129)), some (.int s), some (.int m), none] rfl (Nat.le_of_ble_eq_true rfl) (by simp [Value.category]) rfl ?_
  have n12 := hX.n12
  have n32 := hX.n32
  refine xa_aload_n (pc := 0) dX7_change_0 rfl ?_
  refine xa_iload_n (pc := 1) dX7_change_1 rfl ?_
  refine xa_callV (pc := 2) hX.c_m129 (kd_129 _) rfl lcX7_46 dX7_change_2 (cx_serviceInCare E hX _) rfl rfl (by decide) (Nat.le_of_ble_eq_true rfl) (by decide) ?_
  rintro _ _ _ ⟨⟨hq2, rfl⟩ | ⟨hq2, rfl⟩, rfl, rfl⟩
  · refine xa_astore_n (pc := 5) dX7_change_5 (by decide) ?_
    refine xa_aload_n (pc := 6) dX7_change_6 rfl ?_
    refine xa_ifnull_ref (pc := 7) dX7_change_7 ?_
    refine xa_iload_n (pc := 10) dX7_change_10 rfl ?_
    refine xa_callS (pc := 11) lcX7_53 dX7_change_11 (cx_areMarks E _) rfl rfl (by decide) (Nat.le_of_ble_eq_true rfl) (by decide) ?_
    rintro _ _ _ ⟨rfl, rfl, rfl⟩
    refine xa_if_ne (pc := 14) 19 dX7_change_14 (by decide) (fun h14 => ?_) (fun h14 => ?_)
    · have h14 := xa_b_n0.mp h14
      refine xa_aload_n (pc := 19) dX7_change_19 rfl ?_
      refine xa_iload_n (pc := 20) dX7_change_20 rfl ?_
      refine xa_putI (pc := 21) 5 6 lpX7_56 dX7_change_21 (hX.sM (isH_lt hX.s100 (xm_open_s hq2))) (kd_128 _) rfl rfl rfl ?_
      refine xa_aload_n (pc := 24) dX7_change_24 rfl ?_
      refine xa_getIv (pc := 25) 5 7 (S 151 (xc s)) lfX7_59 dX7_change_25 (hX.sM (isH_lt hX.s100 (xm_open_s hq2))) (kd_128 _) rfl (Eq.trans ((rx_marks hX (m := m) (isH_lt hX.s100 (xm_open_s hq2))).s_state (isH_lt hX.s100 (xm_open_s hq2))) (rfl : xa_up S 149 (xc s) m 151 (xc s) = S 151 (xc s))) ?_
      refine xa_iconst (pc := 28) (v := 2) dX7_change_28 (by decide) ?_
      refine xa_icmp_ne (pc := 29) 40 dX7_change_29 (by decide) (fun h29 => ?_) (fun h29 => ?_)
      · refine xa_iconst (pc := 40) (v := 1) dX7_change_40 (by decide) ?_
        rw [show xm_change nh ns S s m = _ from if_pos (by simp [hq2, h14])]
        show xa_W _ _ (xa_Z _ _ _ (PX _ _ _ _ _ _ (if S 151 (xc s) = 2 then _ else _))) _ _ _ _ _ _ _ _
        rw [if_neg h29]
        exact xa_zret dX7_change_41 rfl (by decide) ⟨rfl, rx_marks hX (isH_lt hX.s100 (xm_open_s hq2))⟩
      · refine xa_aload_n (pc := 32) dX7_change_32 rfl ?_
        refine xa_aload_n (pc := 33) dX7_change_33 rfl ?_
        refine xa_getIv (pc := 34) 7 4 (S 130 36) lfX7_62 dX7_change_34 hX.c_m129 (kd_129 _) rfl (Eq.trans ((rx_marks hX (m := m) (isH_lt hX.s100 (xm_open_s hq2))).g_now) (rfl : xa_up S 149 (xc s) m 130 36 = S 130 36)) ?_
        refine xa_putI (pc := 37) 5 9 lpX7_65 dX7_change_37 (hX.sM (isH_lt hX.s100 (xm_open_s hq2))) (kd_128 _) rfl rfl rfl ?_
        refine xa_iconst (pc := 40) (v := 1) dX7_change_40 (by decide) ?_
        rw [show xm_change nh ns S s m = _ from if_pos (by simp [hq2, h14])]
        show xa_W _ _ (xa_Z _ _ _ (PX _ _ _ _ _ _ (if S 151 (xc s) = 2 then _ else _))) _ _ _ _ _ _ _ _
        rw [if_pos h29]
        exact xa_zret dX7_change_41 rfl (by decide) ⟨rfl, rx_renew (rx_marks hX (isH_lt hX.s100 (xm_open_s hq2))) (isH_lt hX.s100 (xm_open_s hq2))⟩
    · have h14 := xa_b_0.mp h14
      refine xa_iconst (pc := 17) (v := 0) dX7_change_17 (by decide) ?_
      rw [show xm_change nh ns S s m = _ from if_neg (by simp [hq2, h14])]
      exact xa_zret dX7_change_18 rfl (by decide) ⟨rfl, hX⟩
  · refine xa_astore_nN (pc := 5) dX7_change_5 (by decide) ?_
    refine xa_aload_nN (pc := 6) dX7_change_6 rfl ?_
    refine xa_ifnull_null (pc := 7) 17 dX7_change_7 (by decide) ?_
    refine xa_iconst (pc := 17) (v := 0) dX7_change_17 (by decide) ?_
    rw [show xm_change nh ns S s m = _ from if_neg (by simp [hq2])]
    exact xa_zret dX7_change_18 rfl (by decide) ⟨rfl, hX⟩
