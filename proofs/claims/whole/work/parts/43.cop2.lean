/-- letters stay as they are -/
def fl (T T2 : xa_AH) : Prop := ∀ a, lcell a → T2 a = T a
theorem fl_rf {T : xa_AH} : fl T T := fun _ _ => rfl
theorem fl_tr {T T2 T3 : xa_AH} (h1 : fl T T2) (h2 : fl T2 T3) : fl T T3 := fun a ha => (h2 a ha).trans (h1 a ha)
theorem fl_up {T T2 : xa_AH} {h r j : Nat} {v : Int32} (g : fl T T2) (hr : r < 256) (n : r < 16 ∨ 80 ≤ r) : fl T (xa_up T2 (ci h r) j v) := fun a ha => by
  rw [up_o (fun e => nlc hr n (e ▸ ha))]; exact g a ha
def PF (nh ns k : Nat) (pw : Nat → Nat) (L : List Nat) (T : xa_AH) (R : xa_AR) (S : xa_AH) : Option Value → xa_AH → xa_AR → Prop := fun r T2 R2 => none = r ∧ R = R2 ∧ RX nh ns k pw L T2 R S ∧ fl T T2
set_option maxHeartbeats 4000000 in
theorem cx_rouse (E : xa_EV) {L : List Nat} {T : xa_AH} {R : xa_AR} {nh ns k : Nat} {pw : Nat → Nat} {S : xa_AH} (hX : RX nh ns k pw L T R S) {h : Nat} (hh : h < nh) : xa_Ct E mX7_rouse [.ref (ci 0 129), .ref (ci h 0)] L T R (PF nh ns k pw L T R (xm_yl4 S h)) := by
  refine xa_Ct.of [some (.ref (ci 0 129)), some (.ref (ci h 0))] rfl (Nat.le_of_ble_eq_true rfl) (by simp [Value.category]) rfl ?_
  have n12 := hX.n12
  have n32 := hX.n32
  refine xa_aload_n (pc := 0) dX7_rouse_0 rfl ?_
  refine xa_getIv (pc := 1) 3 8 _ lfX7_95 dX7_rouse_1 ((hX.hS hh).1 0 (by decide)) (kd_0 _) rfl (hX.h_state hh) ?_
  refine xa_iconst (pc := 4) (v := 1) dX7_rouse_4 (by decide) ?_
  refine xa_icmp_ne (pc := 5) 23 dX7_rouse_5 (by decide) (fun h5 => ?_) (fun h5 => ?_)
  · exact xa_vret dX7_rouse_23 rfl ⟨rfl, rfl, by rw [show xm_yl4 S h = _ from if_neg (by rw [hX.x1 hh]; exact h5)]; exact hX, fl_rf⟩
  · refine xa_aload_n (pc := 8) dX7_rouse_8 rfl ?_
    refine xa_iconst (pc := 9) (v := 2) dX7_rouse_9 (by decide) ?_
    refine xa_putI (pc := 10) 3 8 lpX7_95 dX7_rouse_10 ((hX.hS hh).1 0 (by decide)) (kd_0 _) rfl rfl rfl ?_
    refine xa_aload_n (pc := 13) dX7_rouse_13 rfl ?_
    refine xa_dup (pc := 14) dX7_rouse_14 rfl ?_
    refine xa_getIv (pc := 15) 7 11 (S 130 42) lfX7_241 dX7_rouse_15 hX.c_m129 (kd_129 _) rfl (by rw [up_o (ci_ne (by decide) (by decide) (by decide))]; exact hX.g_woken) ?_
    refine xa_iconst (pc := 18) (v := 1) dX7_rouse_18 (by decide) ?_
    refine xa_iadd (pc := 19) dX7_rouse_19 ?_
    refine xa_putI (pc := 20) 7 11 lpX7_241 dX7_rouse_20 hX.c_m129 (kd_129 _) rfl rfl rfl ?_
    exact xa_vret dX7_rouse_23 rfl ⟨rfl, rfl, by rw [show xm_yl4 S h = _ from if_pos (xs1.mp h5).1]; exact rx_rouse hX hh (xs1.mp h5).1, fl_up (fl_up fl_rf (by decide) (by decide)) (by decide) (by decide)⟩
set_option maxHeartbeats 4000000 in
theorem cx_goAway (E : xa_EV) {L : List Nat} {T : xa_AH} {R : xa_AR} {h : Nat} (hS : cs_h L R h) : xa_Ct E mX3_goAway [.ref (ci h 0)] L T R (xa_pV (xa_up (xa_up (xa_up (xa_up (xa_up T (ci h 0) 8 0) (ci h 0) 9 0) (ci h 1) 4 0) (ci h 6) 2 0) (ci h 9) 1 0) R) := by
  refine xa_Ct.of [some (.ref (ci h 0))] rfl (Nat.le_of_ble_eq_true rfl) (by simp [Value.category]) rfl ?_
  refine xa_aload_n (pc := 0) dX3_goAway_0 rfl ?_
  refine xa_iconst (pc := 1) (v := 0) dX3_goAway_1 (by decide) ?_
  refine xa_putI (pc := 2) 3 8 lpX3_32 dX3_goAway_2 (hS.1 0 (by decide)) (kd_0 _) rfl rfl rfl ?_
  refine xa_aload_n (pc := 5) dX3_goAway_5 rfl ?_
  refine xa_iconst (pc := 6) (v := 0) dX3_goAway_6 (by decide) ?_
  refine xa_putI (pc := 7) 3 9 lpX3_65 dX3_goAway_7 (hS.1 0 (by decide)) (kd_0 _) rfl rfl rfl ?_
  refine xa_aload_n (pc := 10) dX3_goAway_10 rfl ?_
  refine xa_getA (pc := 11) 3 4 (ci h 1) lfX3_12 dX3_goAway_11 (hS.1 0 (by decide)) (kd_0 _) rfl (hS.2 (0, 4, 1) (by decide)) ?_
  refine xa_callV (pc := 14) (hS.1 1 (by decide)) (kd_1 _) rfl lcX3_69 dX3_goAway_14 (cx_clear E hS) rfl rfl (by decide) (Nat.le_of_ble_eq_true rfl) (by decide) ?_
  rintro _ _ _ ⟨rfl, rfl, rfl⟩
  refine xa_aload_n (pc := 17) dX3_goAway_17 rfl ?_
  refine xa_getA (pc := 18) 3 5 (ci h 6) lfX3_21 dX3_goAway_18 (hS.1 0 (by decide)) (kd_0 _) rfl (hS.2 (0, 5, 6) (by decide)) ?_
  refine xa_callV (pc := 21) (hS.1 6 (by decide)) (kd_6 _) rfl lcX3_72 dX3_goAway_21 (cx_aclear E hS) rfl rfl (by decide) (Nat.le_of_ble_eq_true rfl) (by decide) ?_
  rintro _ _ _ ⟨rfl, rfl, rfl⟩
  refine xa_aload_n (pc := 24) dX3_goAway_24 rfl ?_
  refine xa_getA (pc := 25) 3 6 (ci h 9) lfX3_28 dX3_goAway_25 (hS.1 0 (by decide)) (kd_0 _) rfl (hS.2 (0, 6, 9) (by decide)) ?_
  refine xa_callV (pc := 28) (hS.1 9 (by decide)) (kd_9 _) rfl lcX3_73 dX3_goAway_28 (cx_nclear E hS) rfl rfl (by decide) (Nat.le_of_ble_eq_true rfl) (by decide) ?_
  rintro _ _ _ ⟨rfl, rfl, rfl⟩
  exact xa_vret dX3_goAway_31 rfl ⟨rfl, rfl, rfl⟩
theorem in16 {x : Int32} (h : xm_in x 0 15 = true) : vp_in x 16 := by
  have h := xm_in_t.mp h
  rw [vp_in_iff]
  simp only [fa_le] at h
  have e : (0 : Int32).toInt = 0 := rfl
  have e1 : (15 : Int32).toInt = 15 := rfl
  rw [e, e1] at h; omega
set_option maxHeartbeats 4000000 in
theorem cx_ask (E : xa_EV) {L : List Nat} {T : xa_AH} {R : xa_AR} {nh ns k : Nat} {pw : Nat → Nat} {S : xa_AH} (hX : RX nh ns k pw L T R S) (h kd m : Int32) : xa_Ct E mX7_ask [.ref (ci 0 129), .int h, .int kd, .int m] L T R (PX nh ns k pw L (.int (xa_b (xm_ask nh ns S h kd m).1)) (xm_ask nh ns S h kd m).2) := by
  refine xa_Ct.of [some (.ref (ci 0 129)), some (.int h), some (.int kd), some (.int m), none] rfl (Nat.le_of_ble_eq_true rfl) (by simp [Value.category]) rfl ?_
  have n12 := hX.n12
  have n32 := hX.n32
  refine xa_aload_n (pc := 0) dX7_ask_0 rfl ?_
  refine xa_iload_n (pc := 1) dX7_ask_1 rfl ?_
  refine xa_callV (pc := 2) hX.c_m129 (kd_129 _) rfl lcX7_35 dX7_ask_2 (cx_stayingHelper E hX _) rfl rfl (by decide) (Nat.le_of_ble_eq_true rfl) (by decide) ?_
  rintro _ _ _ ⟨⟨hq2, rfl⟩ | ⟨hq2, rfl⟩, rfl, rfl⟩
  · refine xa_astore (pc := 5) dX7_ask_5 (by decide) ?_
    refine xa_aload (pc := 7) dX7_ask_7 rfl ?_
    refine xa_ifnull_ref (pc := 9) dX7_ask_9 ?_
    refine xa_iload_n (pc := 12) dX7_ask_12 rfl ?_
    refine xa_callS (pc := 13) lcX7_68 dX7_ask_13 (cx_isKind E _) rfl rfl (by decide) (Nat.le_of_ble_eq_true rfl) (by decide) ?_
    rintro _ _ _ ⟨rfl, rfl, rfl⟩
    refine xa_if_eq (pc := 16) 38 dX7_ask_16 (by decide) (fun h16 => ?_) (fun h16 => ?_)
    · have h16 := xa_b_0.mp h16
      refine xa_iconst (pc := 38) (v := 0) dX7_ask_38 (by decide) ?_
      rw [show xm_ask nh ns S h kd m = _ from if_neg (by simp [hlp_and, hq2, h16])]
      exact xa_zret dX7_ask_39 rfl (by decide) ⟨rfl, hX⟩
    · have h16 := xa_b_n0.mp h16
      refine xa_iload_n (pc := 19) dX7_ask_19 rfl ?_
      refine xa_callS (pc := 20) lcX7_53 dX7_ask_20 (cx_areMarks E _) rfl rfl (by decide) (Nat.le_of_ble_eq_true rfl) (by decide) ?_
      rintro _ _ _ ⟨rfl, rfl, rfl⟩
      refine xa_if_eq (pc := 23) 38 dX7_ask_23 (by decide) (fun h23 => ?_) (fun h23 => ?_)
      · have h23 := xa_b_0.mp h23
        refine xa_iconst (pc := 38) (v := 0) dX7_ask_38 (by decide) ?_
        rw [show xm_ask nh ns S h kd m = _ from if_neg (by simp [hlp_and, hq2, h16, h23])]
        exact xa_zret dX7_ask_39 rfl (by decide) ⟨rfl, hX⟩
      · have h23 := xa_b_n0.mp h23
        have hv := in16 h16
        have hb : xc kd < 16 := xa_in_lt hv
        refine xa_aload (pc := 26) dX7_ask_26 rfl ?_
        refine xa_getA (pc := 28) 3 5 (ci (xc h) 6) lfX7_71 dX7_ask_28 ((hX.hS (aw_lt hX.h100 (hlp_up hq2))).1 0 (by decide)) (kd_0 _) rfl ((hX.hS (aw_lt hX.h100 (hlp_up hq2))).2 (0, 5, 6) (by decide)) ?_
        refine xa_iload_n (pc := 31) dX7_ask_31 rfl ?_
        refine xa_callV (pc := 32) ((hX.hS (aw_lt hX.h100 (hlp_up hq2))).1 6 (by decide)) (kd_6 _) rfl lcX7_75 dX7_ask_32 (rq_ahas E hX (aw_lt hX.h100 (hlp_up hq2)) (k1 := (xc kd)) (xa_in_eq hv) (by omega)) rfl rfl (by decide) (Nat.le_of_ble_eq_true rfl) (by decide) ?_
        rintro _ _ _ ⟨rfl, rfl, rfl⟩
        refine xa_if_eq (pc := 35) 40 dX7_ask_35 (by decide) (fun h35 => ?_) (fun h35 => ?_)
        · have h35 := xa_b_0.mp h35
          refine xa_aload (pc := 40) dX7_ask_40 rfl ?_
          refine xa_getA (pc := 42) 3 5 (ci (xc h) 6) lfX7_71 dX7_ask_42 ((hX.hS (aw_lt hX.h100 (hlp_up hq2))).1 0 (by decide)) (kd_0 _) rfl ((hX.hS (aw_lt hX.h100 (hlp_up hq2))).2 (0, 5, 6) (by decide)) ?_
          refine xa_iload_n (pc := 45) dX7_ask_45 rfl ?_
          refine xa_iload_n (pc := 46) dX7_ask_46 rfl ?_
          refine xa_aload_n (pc := 47) dX7_ask_47 rfl ?_
          refine xa_getIv (pc := 48) 7 4 _ lfX7_62 dX7_ask_48 hX.c_m129 (kd_129 _) rfl hX.g_now ?_
          refine xa_aload_n (pc := 51) dX7_ask_51 rfl ?_
          refine xa_aload (pc := 52) dX7_ask_52 rfl ?_
          refine xa_callV (pc := 54) hX.c_m129 (kd_129 _) rfl lcX7_80 dX7_ask_54 (cx_lotOf E hX (aw_lt hX.h100 (hlp_up hq2))) rfl rfl (by decide) (Nat.le_of_ble_eq_true rfl) (by decide) ?_
          rintro _ _ _ ⟨rfl, rfl, rfl⟩
          refine xa_iadd (pc := 57) dX7_ask_57 ?_
          refine xa_callV (pc := 58) ((hX.hS (aw_lt hX.h100 (hlp_up hq2))).1 6 (by decide)) (kd_6 _) rfl lcX7_84 dX7_ask_58 (cx_aput E (hX.hS (aw_lt hX.h100 (hlp_up hq2))) (k := (xc kd)) (xa_in_eq hv) (by omega) _ _) rfl rfl (by decide) (Nat.le_of_ble_eq_true rfl) (by decide) ?_
          rintro _ _ _ ⟨rfl, rfl, rfl⟩
          refine xa_iconst (pc := 61) (v := 1) dX7_ask_61 (by decide) ?_
          have eh := isH_eq hX.h100 (xm_up_h (hlp_up hq2))
          rw [show xm_ask nh ns S h kd m = _ from if_pos (by simp at h35; simp [hlp_up hq2, hlp_b hq2, h16, h23, h35])]
          have e2 : xm_lot h (S 130 36) = xm_lot (nI (xc h)) (S 130 36) := by rw [← eh]
          rw [e2]
          exact xa_zret dX7_ask_62 rfl (by decide) ⟨rfl, rx_ask hX (aw_lt hX.h100 (hlp_up hq2)) hb⟩
        · have h35 := xa_b_n0.mp h35
          refine xa_iconst (pc := 38) (v := 0) dX7_ask_38 (by decide) ?_
          rw [show xm_ask nh ns S h kd m = _ from if_neg (by simp at h35; simp [h35])]
          exact xa_zret dX7_ask_39 rfl (by decide) ⟨rfl, hX⟩
  · refine xa_astoreN (pc := 5) dX7_ask_5 (by decide) ?_
    refine xa_aloadN (pc := 7) dX7_ask_7 rfl ?_
    refine xa_ifnull_null (pc := 9) 38 dX7_ask_9 (by decide) ?_
    refine xa_iconst (pc := 38) (v := 0) dX7_ask_38 (by decide) ?_
    rw [show xm_ask nh ns S h kd m = _ from if_neg (by simp [hlp_and, hq2])]
    exact xa_zret dX7_ask_39 rfl (by decide) ⟨rfl, hX⟩
theorem sleep_c {nh : Nat} {S : xa_AH} {h q : Int32} {a b c : Bool} : (xm_up nh S h && (xm_up nh S q && (a && (b && (decide (S 139 (xc h) = 0) && (decide (S 139 (xc q) = 0) && c)))))) = (xm_hlp nh S h && (xm_hlp nh S q && (a && (b && c)))) := by
  simp only [xm_hlp]
  cases (xm_up nh S h) <;> cases (xm_up nh S q) <;> cases (decide (S 139 (xc h) = 0)) <;> cases (decide (S 139 (xc q) = 0)) <;> cases a <;> cases b <;> rfl
set_option maxHeartbeats 4000000 in
theorem cx_sleep (E : xa_EV) {L : List Nat} {T : xa_AH} {R : xa_AR} {nh ns k : Nat} {pw : Nat → Nat} {S : xa_AH} (hX : RX nh ns k pw L T R S) (h q : Int32) : xa_Ct E mX7_sleep [.ref (ci 0 129), .int h, .int q] L T R (PX nh ns k pw L (.int (xa_b (xm_sleep nh ns S h q).1)) (xm_sleep nh ns S h q).2) := by
  refine xa_Ct.of [some (.ref (ci 0 129)), some (.int h), some (.int q), none, none] rfl (Nat.le_of_ble_eq_true rfl) (by simp [Value.category]) rfl ?_
  have n12 := hX.n12
  have n32 := hX.n32
  refine xa_aload_n (pc := 0) dX7_sleep_0 rfl ?_
  refine xa_iload_n (pc := 1) dX7_sleep_1 rfl ?_
  refine xa_callV (pc := 2) hX.c_m129 (kd_129 _) rfl lcX7_35 dX7_sleep_2 (cx_stayingHelper E hX _) rfl rfl (by decide) (Nat.le_of_ble_eq_true rfl) (by decide) ?_
  rintro _ _ _ ⟨⟨hq2, rfl⟩ | ⟨hq2, rfl⟩, rfl, rfl⟩
  · refine xa_astore_n (pc := 5) dX7_sleep_5 (by decide) ?_
    refine xa_aload_n (pc := 6) dX7_sleep_6 rfl ?_
    refine xa_iload_n (pc := 7) dX7_sleep_7 rfl ?_
    refine xa_callV (pc := 8) hX.c_m129 (kd_129 _) rfl lcX7_35 dX7_sleep_8 (cx_stayingHelper E hX _) rfl rfl (by decide) (Nat.le_of_ble_eq_true rfl) (by decide) ?_
    rintro _ _ _ ⟨⟨hq8, rfl⟩ | ⟨hq8, rfl⟩, rfl, rfl⟩
    · refine xa_astore (pc := 11) dX7_sleep_11 (by decide) ?_
      refine xa_aload_n (pc := 13) dX7_sleep_13 rfl ?_
      refine xa_ifnull_ref (pc := 14) dX7_sleep_14 ?_
      refine xa_aload (pc := 17) dX7_sleep_17 rfl ?_
      refine xa_ifnull_ref (pc := 19) dX7_sleep_19 ?_
      refine xa_aload_n (pc := 22) dX7_sleep_22 rfl ?_
      refine xa_aload (pc := 23) dX7_sleep_23 rfl ?_
      refine xa_acmpC_ne (pc := 25) 30 (x := (ci (xc h) 0)) (y := (ci (xc q) 0)) dX7_sleep_25 (by decide) ((hX.hS (aw_lt hX.h100 (hlp_up hq2))).1 0 (by decide)) ((hX.hS (aw_lt hX.h100 (hlp_up hq8))).1 0 (by decide)) (fun h25 => ?_) (fun h25 => ?_)
      · have h25 : ¬ ((xc h) = (xc q)) := fun q => h25 (ci_i.mpr q)
        refine xa_aload_n (pc := 30) dX7_sleep_30 rfl ?_
        refine xa_getIv (pc := 31) 3 7 _ lfX7_88 dX7_sleep_31 ((hX.hS (aw_lt hX.h100 (hlp_up hq2))).1 0 (by decide)) (kd_0 _) rfl (hX.h_net (aw_lt hX.h100 (hlp_up hq2))) ?_
        refine xa_aload (pc := 34) dX7_sleep_34 rfl ?_
        refine xa_getIv (pc := 36) 3 7 _ lfX7_88 dX7_sleep_36 ((hX.hS (aw_lt hX.h100 (hlp_up hq8))).1 0 (by decide)) (kd_0 _) rfl (hX.h_net (aw_lt hX.h100 (hlp_up hq8))) ?_
        refine xa_icmp_ne (pc := 39) 49 dX7_sleep_39 (by decide) (fun h39 => ?_) (fun h39 => ?_)
        · refine xa_iconst (pc := 49) (v := 0) dX7_sleep_49 (by decide) ?_
          rw [show xm_sleep nh ns S h q = _ from if_neg (by rw [sleep_c]; simp [hq2, hq8, h39])]
          exact xa_zret dX7_sleep_50 rfl (by decide) ⟨rfl, hX⟩
        · refine xa_aload_n (pc := 42) dX7_sleep_42 rfl ?_
          refine xa_getIv (pc := 43) 3 9 _ lfX7_91 dX7_sleep_43 ((hX.hS (aw_lt hX.h100 (hlp_up hq2))).1 0 (by decide)) (kd_0 _) rfl (hX.h_isKeeper (aw_lt hX.h100 (hlp_up hq2))) ?_
          refine xa_if_eq (pc := 46) 51 dX7_sleep_46 (by decide) (fun h46 => ?_) (fun h46 => ?_)
          · refine xa_aload_n (pc := 51) dX7_sleep_51 rfl ?_
            refine xa_iconst (pc := 52) (v := 1) dX7_sleep_52 (by decide) ?_
            refine xa_putI (pc := 53) 3 8 lpX7_95 dX7_sleep_53 ((hX.hS (aw_lt hX.h100 (hlp_up hq2))).1 0 (by decide)) (kd_0 _) rfl rfl rfl ?_
            refine xa_aload_n (pc := 56) dX7_sleep_56 rfl ?_
            refine xa_aload (pc := 57) dX7_sleep_57 rfl ?_
            refine xa_putR (pc := 59) (some (ci (xc q) 0)) 3 10 lpX7_96 dX7_sleep_59 ((hX.hS (aw_lt hX.h100 (hlp_up hq2))).1 0 (by decide)) (kd_0 _) rfl (fun _ => by cases ‹Option Nat› <;> rfl) (fun _ => by cases ‹Option Nat› <;> rfl) ?_
            refine xa_iconst (pc := 62) (v := 1) dX7_sleep_62 (by decide) ?_
            have eh := isH_eq hX.h100 (xm_up_h (hlp_up hq2))
            have eq := isH_eq hX.h100 (xm_up_h (hlp_up hq8))
            have xh := hlp_up hq2
            rw [xm_up_e (xm_up_h (hlp_up hq2))] at xh
            have xh := xs2.mp (of_decide_eq_true xh)
            have xq := hlp_up hq8
            rw [xm_up_e (xm_up_h (hlp_up hq8))] at xq
            have xq := xs2.mp (of_decide_eq_true xq)
            have ne : ¬ h = q := fun e => h25 (by rw [e])
            rw [show xm_sleep nh ns S h q = _ from if_pos (by rw [sleep_c]; simp [hq2, hq8, ne, h39, h46])]
            have key := rx_sleep (rx_setpx hX (aw_lt hX.h100 (hlp_up hq2)) (aw_lt hX.h100 (hlp_up hq8)) (by rw [xh.1]; decide)) (aw_lt hX.h100 (hlp_up hq2)) (aw_lt hX.h100 (hlp_up hq8)) xh.1 xh.2 xq.2 h39.symm upr_s
            rw [← eq] at key
            exact xa_zret dX7_sleep_63 rfl (by decide) ⟨rfl, key⟩
          · refine xa_iconst (pc := 49) (v := 0) dX7_sleep_49 (by decide) ?_
            rw [show xm_sleep nh ns S h q = _ from if_neg (by rw [sleep_c]; simp [hq2, hq8, h39, h46])]
            exact xa_zret dX7_sleep_50 rfl (by decide) ⟨rfl, hX⟩
      · have h25 := ci_i.mp h25
        refine xa_iconst (pc := 28) (v := 0) dX7_sleep_28 (by decide) ?_
        have eh := isH_eq hX.h100 (xm_up_h (hlp_up hq2))
        have eq := isH_eq hX.h100 (xm_up_h (hlp_up hq8))
        have ne : h = q := by rw [eh, eq, h25]
        rw [show xm_sleep nh ns S h q = _ from if_neg (by rw [sleep_c]; simp [ne, hq2, hq8])]
        exact xa_zret dX7_sleep_29 rfl (by decide) ⟨rfl, hX⟩
    · refine xa_astoreN (pc := 11) dX7_sleep_11 (by decide) ?_
      refine xa_aload_n (pc := 13) dX7_sleep_13 rfl ?_
      refine xa_ifnull_ref (pc := 14) dX7_sleep_14 ?_
      refine xa_aloadN (pc := 17) dX7_sleep_17 rfl ?_
      refine xa_ifnull_null (pc := 19) 28 dX7_sleep_19 (by decide) ?_
      refine xa_iconst (pc := 28) (v := 0) dX7_sleep_28 (by decide) ?_
      rw [show xm_sleep nh ns S h q = _ from if_neg (by rw [sleep_c]; simp [hq2, hq8])]
      exact xa_zret dX7_sleep_29 rfl (by decide) ⟨rfl, hX⟩
  · refine xa_astore_nN (pc := 5) dX7_sleep_5 (by decide) ?_
    refine xa_aload_n (pc := 6) dX7_sleep_6 rfl ?_
    refine xa_iload_n (pc := 7) dX7_sleep_7 rfl ?_
    refine xa_callV (pc := 8) hX.c_m129 (kd_129 _) rfl lcX7_35 dX7_sleep_8 (cx_stayingHelper E hX _) rfl rfl (by decide) (Nat.le_of_ble_eq_true rfl) (by decide) ?_
    rintro _ _ _ ⟨⟨hq8, rfl⟩ | ⟨hq8, rfl⟩, rfl, rfl⟩
    · refine xa_astore (pc := 11) dX7_sleep_11 (by decide) ?_
      refine xa_aload_nN (pc := 13) dX7_sleep_13 rfl ?_
      refine xa_ifnull_null (pc := 14) 28 dX7_sleep_14 (by decide) ?_
      refine xa_iconst (pc := 28) (v := 0) dX7_sleep_28 (by decide) ?_
      rw [show xm_sleep nh ns S h q = _ from if_neg (by rw [sleep_c]; simp [hq2, hq8])]
      exact xa_zret dX7_sleep_29 rfl (by decide) ⟨rfl, hX⟩
    · refine xa_astoreN (pc := 11) dX7_sleep_11 (by decide) ?_
      refine xa_aload_nN (pc := 13) dX7_sleep_13 rfl ?_
      refine xa_ifnull_null (pc := 14) 28 dX7_sleep_14 (by decide) ?_
      refine xa_iconst (pc := 28) (v := 0) dX7_sleep_28 (by decide) ?_
      rw [show xm_sleep nh ns S h q = _ from if_neg (by rw [sleep_c]; simp [hq2, hq8])]
      exact xa_zret dX7_sleep_29 rfl (by decide) ⟨rfl, hX⟩
