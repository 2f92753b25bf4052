theorem rq_has (E : xa_EV) {L : List Nat} {T : xa_AH} {R : xa_AR} {nh ns k : Nat} {pw : Nat → Nat} {S : xa_AH} (hX : RX nh ns k pw L T R S) {h : Nat} (hh : h < nh) {s : Nat} {x1 : Int32} (es : x1 = nI s) (hs : s < 32) : xa_Ct E mX6_has [.ref (ci h 1), .int x1] L T R (xa_pR (.int (xa_b (decide (¬ S 158 (32 * h + s) = 0)))) T R) := by
  rw [← hX.r_held hh hs]; exact cx_has E (hX.hS hh) es hs
theorem rq_left (E : xa_EV) {L : List Nat} {T : xa_AH} {R : xa_AR} {nh ns k : Nat} {pw : Nat → Nat} {S : xa_AH} (hX : RX nh ns k pw L T R S) {h : Nat} (hh : h < nh) {s : Nat} {x1 : Int32} (es : x1 = nI s) (hs : s < 32) (t : Int32) : xa_Ct E mX6_left [.ref (ci h 1), .int x1, .int t] L T R (xa_pR (.int (S 162 (32 * h + s) - t)) T R) := by
  rw [← hX.r_end hh hs]; exact cx_left E (hX.hS hh) es hs t
theorem rq_isFresh (E : xa_EV) {L : List Nat} {T : xa_AH} {R : xa_AR} {nh ns k : Nat} {pw : Nat → Nat} {S : xa_AH} (hX : RX nh ns k pw L T R S) {h : Nat} (hh : h < nh) {s : Nat} {x1 : Int32} (es : x1 = nI s) (hs : s < 32) (t : Int32) : xa_Ct E mX6_isFresh [.ref (ci h 1), .int x1, .int t] L T R (xa_pR (.int (xa_b (decide (¬ S 158 (32 * h + s) = 0) && decide (¬ 2 * (S 162 (32 * h + s) - t) ≤ S 161 (32 * h + s))))) T R) := by
  rw [← hX.r_held hh hs, ← hX.r_end hh hs, ← hX.r_life hh hs]; exact cx_isFresh E (hX.hS hh) es hs t
theorem rq_ahas (E : xa_EV) {L : List Nat} {T : xa_AH} {R : xa_AR} {nh ns k : Nat} {pw : Nat → Nat} {S : xa_AH} (hX : RX nh ns k pw L T R S) {h : Nat} (hh : h < nh) {k1 : Nat} {x1 : Int32} (es : x1 = nI k1) (hs : k1 < 16) : xa_Ct E mX1_has [.ref (ci h 6), .int x1] L T R (xa_pR (.int (xa_b (decide (¬ S 164 (16 * h + k1) = 0)))) T R) := by
  rw [← hX.a_has hh hs]; exact cx_ahas E (hX.hS hh) es hs
theorem rq_aisDue (E : xa_EV) {L : List Nat} {T : xa_AH} {R : xa_AR} {nh ns k : Nat} {pw : Nat → Nat} {S : xa_AH} (hX : RX nh ns k pw L T R S) {h : Nat} (hh : h < nh) {k1 : Nat} {x1 : Int32} (es : x1 = nI k1) (hs : k1 < 16) (t : Int32) : xa_Ct E mX1_isDue [.ref (ci h 6), .int x1, .int t] L T R (xa_pR (.int (xa_b (decide (¬ S 164 (16 * h + k1) = 0) && decide (¬ t < S 166 (16 * h + k1))))) T R) := by
  rw [← hX.a_has hh hs, ← hX.a_due hh hs]; exact cx_aisDue E (hX.hS hh) es hs t
theorem rq_aempty (E : xa_EV) {L : List Nat} {T : xa_AH} {R : xa_AR} {nh ns k : Nat} {pw : Nat → Nat} {S : xa_AH} (hX : RX nh ns k pw L T R S) {h : Nat} (hh : h < nh) : xa_Ct E mX1_isEmpty [.ref (ci h 6)] L T R (xa_pR (.int (xa_b (!xa_any (fun j => decide (¬ S 164 (16 * h + j) = 0)) 16))) T R) := by
  have e : (!xa_any (fun j => decide (¬ S 164 (16 * h + j) = 0)) 16) = decide (T (ci h 6) 2 = 0) := by
    have hz : T (ci h 6) 2 = 0 ↔ xa_any (fun j => decide (¬ S 164 (16 * h + j) = 0)) 16 = false := by
      rw [bt_zero, xa_any_no]
      constructor
      · intro g i hi
        rw [← hX.a_has hh hi]; exact g i (by omega)
      · intro g i hi
        by_cases q : i < 16
        · rw [hX.a_has hh q]; exact g i q
        · exact hX.b_big h hh i (by omega)
    cases hq : xa_any (fun j => decide (¬ S 164 (16 * h + j) = 0)) 16 with
    | false => rw [decide_eq_true (hz.mpr hq)]; rfl
    | true => rw [decide_eq_false (fun g => by rw [hz.mp g] at hq; cases hq)]; rfl
  rw [e]; exact cx_aempty E (hX.hS hh)
theorem rq_nisDue (E : xa_EV) {L : List Nat} {T : xa_AH} {R : xa_AR} {nh ns k : Nat} {pw : Nat → Nat} {S : xa_AH} (hX : RX nh ns k pw L T R S) {h : Nat} (hh : h < nh) {s : Nat} {x1 : Int32} (es : x1 = nI s) (hs : s < 32) (t : Int32) : xa_Ct E mX0_isDue [.ref (ci h 9), .int x1, .int t] L T R (xa_pR (.int (xa_b (xm_in (S 163 (32 * h + s)) 0 t))) T R) := by
  have e : xm_in (S 163 (32 * h + s)) 0 t = (bt (T (ci h 9) 1) s && decide (¬ t < T (ci h 10) s)) := by
    rw [hX.r_ans hh hs]
    by_cases g : S 163 (32 * h + s) = -1
    · rw [g]; simp [xm_in]
    · have g1 := (hX.ir_ans hh hs g).2
      have g2 : (0 : Int32) ≤ S 163 (32 * h + s) := by
        rw [fa_le]; exact (vp_in_iff.mp g1).1
      rw [hX.r_due hh hs g]; simp [xm_in, g, g2]
  rw [e]; exact cx_nisDue E (hX.hS hh) es hs t
set_option maxHeartbeats 4000000 in
theorem cx_hasForName (E : xa_EV) {L : List Nat} {T : xa_AH} {R : xa_AR} {nh ns k : Nat} {pw : Nat → Nat} {S : xa_AH} (hX : RX nh ns k pw L T R S) {h : Nat} (hh : h < nh) (n : Int32) : xa_Ct E mX3_hasForName [.ref (ci h 0), .int n] L T R (xa_pR (.int (xa_b (xm_in n (S 133 h) (S 134 h)))) T R) := by
  refine xa_Ct.of [some (.ref (ci h 0)), some (.int n)] rfl (Nat.le_of_ble_eq_true rfl) (by simp [Value.category]) rfl ?_
  have n12 := hX.n12
  have n32 := hX.n32
  refine xa_iload_n (pc := 0) dX3_hasForName_0 rfl ?_
  refine xa_aload_n (pc := 1) dX3_hasForName_1 rfl ?_
  refine xa_getIv (pc := 2) 3 1 _ lfX3_49 dX3_hasForName_2 ((hX.hS hh).1 0 (by decide)) (kd_0 _) rfl (hX.h_from hh) ?_
  refine xa_icmp_lt (pc := 5) 20 dX3_hasForName_5 (by decide) (fun h5 => ?_) (fun h5 => ?_)
  · refine xa_iconst (pc := 20) (v := 0) dX3_hasForName_20 (by decide) ?_
    exact xa_zret dX3_hasForName_21 rfl (by decide) ⟨xa_r0 (xm_in_f.mpr (by simp only [fa_lt, fa_le] at *; omega)), rfl, rfl⟩
  · refine xa_iload_n (pc := 8) dX3_hasForName_8 rfl ?_
    refine xa_aload_n (pc := 9) dX3_hasForName_9 rfl ?_
    refine xa_getIv (pc := 10) 3 2 _ lfX3_52 dX3_hasForName_10 ((hX.hS hh).1 0 (by decide)) (kd_0 _) rfl (hX.h_to hh) ?_
    refine xa_icmp_gt (pc := 13) 20 dX3_hasForName_13 (by decide) (fun h13 => ?_) (fun h13 => ?_)
    · refine xa_iconst (pc := 20) (v := 0) dX3_hasForName_20 (by decide) ?_
      exact xa_zret dX3_hasForName_21 rfl (by decide) ⟨xa_r0 (xm_in_f.mpr (by simp only [fa_lt, fa_le] at *; omega)), rfl, rfl⟩
    · refine xa_iconst (pc := 16) (v := 1) dX3_hasForName_16 (by decide) ?_
      refine xa_goto (pc := 17) (tgt := 21) dX3_hasForName_17 (by decide) ?_
      exact xa_zret dX3_hasForName_21 rfl (by decide) ⟨xa_r1 (xm_in_t.mpr (by simp only [fa_lt, fa_le] at *; omega)), rfl, rfl⟩
def cq_on (S : xa_AH) (h : Nat) (n : Int32) : Bool := if S 139 h = 0 then decide (S 131 h = n) else (!decide (S 131 h = S 132 h) && (decide (S 131 h = n) || decide (S 132 h = n)))
set_option maxHeartbeats 4000000 in
theorem cx_isOn (E : xa_EV) {L : List Nat} {T : xa_AH} {R : xa_AR} {nh ns k : Nat} {pw : Nat → Nat} {S : xa_AH} (hX : RX nh ns k pw L T R S) {h : Nat} (hh : h < nh) (n : Int32) : xa_Ct E mX3_isOn [.ref (ci h 0), .int n] L T R (xa_pR (.int (xa_b (cq_on S h n))) T R) := by
  refine xa_Ct.of [some (.ref (ci h 0)), some (.int n)] rfl (Nat.le_of_ble_eq_true rfl) (by simp [Value.category]) rfl ?_
  have n12 := hX.n12
  have n32 := hX.n32
  refine xa_aload_n (pc := 0) dX3_isOn_0 rfl ?_
  by_cases hb1 : S 139 h = 0
  · refine xa_getR (pc := 1) 3 11 none lfX3_58 dX3_isOn_1 ((hX.hS hh).1 0 (by decide)) (kd_0 _) rfl (hX.h_br0 hh hb1) ?_
    refine xa_ifnonnull_null (pc := 4) dX3_isOn_4 ?_
    refine xa_aload_n (pc := 7) dX3_isOn_7 rfl ?_
    refine xa_getIv (pc := 8) 3 7 _ lfX3_46 dX3_isOn_8 ((hX.hS hh).1 0 (by decide)) (kd_0 _) rfl (hX.h_net hh) ?_
    refine xa_iload_n (pc := 11) dX3_isOn_11 rfl ?_
    refine xa_icmp_ne (pc := 12) 19 dX3_isOn_12 (by decide) (fun h12 => ?_) (fun h12 => ?_)
    · refine xa_iconst (pc := 19) (v := 0) dX3_isOn_19 (by decide) ?_
      exact xa_zret dX3_isOn_20 rfl (by decide) ⟨xa_r0 (by first | (simp [cq_on, hb1, h12]; done) | (simp_all [cq_on]; done)), rfl, rfl⟩
    · refine xa_iconst (pc := 15) (v := 1) dX3_isOn_15 (by decide) ?_
      refine xa_goto (pc := 16) (tgt := 20) dX3_isOn_16 (by decide) ?_
      exact xa_zret dX3_isOn_20 rfl (by decide) ⟨xa_r1 (by first | (simp [cq_on, hb1, h12]; done) | (simp_all [cq_on]; done)), rfl, rfl⟩
  · refine xa_getA (pc := 1) 3 11 (ci h 80) lfX3_58 dX3_isOn_1 ((hX.hS hh).1 0 (by decide)) (kd_0 _) rfl (hX.h_br1 hh hb1) ?_
    refine xa_ifnonnull_ref (pc := 4) 21 dX3_isOn_4 (by decide) ?_
    refine xa_aload_n (pc := 21) dX3_isOn_21 rfl ?_
    refine xa_getIv (pc := 22) 3 7 _ lfX3_46 dX3_isOn_22 ((hX.hS hh).1 0 (by decide)) (kd_0 _) rfl (hX.h_net hh) ?_
    refine xa_aload_n (pc := 25) dX3_isOn_25 rfl ?_
    refine xa_getA (pc := 26) 3 11 (ci h 80) lfX3_58 dX3_isOn_26 ((hX.hS hh).1 0 (by decide)) (kd_0 _) rfl (hX.h_br1 hh hb1) ?_
    refine xa_getIv (pc := 29) 2 1 _ lfX3_62 dX3_isOn_29 (hX.l_br hh hb1).1 (kd_80 _) rfl (hX.h_bnet hh hb1) ?_
    refine xa_icmp_eq (pc := 32) 58 dX3_isOn_32 (by decide) (fun h32 => ?_) (fun h32 => ?_)
    · refine xa_iconst (pc := 58) (v := 0) dX3_isOn_58 (by decide) ?_
      exact xa_zret dX3_isOn_59 rfl (by decide) ⟨xa_r0 (by first | (simp [cq_on, hb1, h32]; done) | (simp_all [cq_on]; done)), rfl, rfl⟩
    · refine xa_aload_n (pc := 35) dX3_isOn_35 rfl ?_
      refine xa_getIv (pc := 36) 3 7 _ lfX3_46 dX3_isOn_36 ((hX.hS hh).1 0 (by decide)) (kd_0 _) rfl (hX.h_net hh) ?_
      refine xa_iload_n (pc := 39) dX3_isOn_39 rfl ?_
      refine xa_icmp_eq (pc := 40) 54 dX3_isOn_40 (by decide) (fun h40 => ?_) (fun h40 => ?_)
      · refine xa_iconst (pc := 54) (v := 1) dX3_isOn_54 (by decide) ?_
        refine xa_goto (pc := 55) (tgt := 59) dX3_isOn_55 (by decide) ?_
        exact xa_zret dX3_isOn_59 rfl (by decide) ⟨xa_r1 (by first | (simp [cq_on, hb1, h32, h40]; done) | (simp_all [cq_on]; done)), rfl, rfl⟩
      · refine xa_aload_n (pc := 43) dX3_isOn_43 rfl ?_
        refine xa_getA (pc := 44) 3 11 (ci h 80) lfX3_58 dX3_isOn_44 ((hX.hS hh).1 0 (by decide)) (kd_0 _) rfl (hX.h_br1 hh hb1) ?_
        refine xa_getIv (pc := 47) 2 1 _ lfX3_62 dX3_isOn_47 (hX.l_br hh hb1).1 (kd_80 _) rfl (hX.h_bnet hh hb1) ?_
        refine xa_iload_n (pc := 50) dX3_isOn_50 rfl ?_
        refine xa_icmp_ne (pc := 51) 58 dX3_isOn_51 (by decide) (fun h51 => ?_) (fun h51 => ?_)
        · refine xa_iconst (pc := 58) (v := 0) dX3_isOn_58 (by decide) ?_
          exact xa_zret dX3_isOn_59 rfl (by decide) ⟨xa_r0 (by first | (simp [cq_on, hb1, h32, h40, h51]; done) | (simp_all [cq_on]; done)), rfl, rfl⟩
        · refine xa_iconst (pc := 54) (v := 1) dX3_isOn_54 (by decide) ?_
          refine xa_goto (pc := 55) (tgt := 59) dX3_isOn_55 (by decide) ?_
          exact xa_zret dX3_isOn_59 rfl (by decide) ⟨xa_r1 (by first | (simp [cq_on, hb1, h32, h40, h51]; done) | (simp_all [cq_on]; done)), rfl, rfl⟩
set_option maxHeartbeats 4000000 in
theorem cx_carries (E : xa_EV) {L : List Nat} {T : xa_AH} {R : xa_AR} {nh ns k : Nat} {pw : Nat → Nat} {S : xa_AH} (hX : RX nh ns k pw L T R S) {h : Nat} (hh : h < nh) (hb : ¬ S 139 h = 0) {n : Nat} {xn : Int32} (en : xn = nI n) (hn : n < 32) : xa_Ct E mX2_carries [.ref (ci h 80), .int xn] L T R (xa_pR (.int (xa_b (bt (S 140 h) n))) T R) := by
  subst en
  refine xa_Ct.of [some (.ref (ci h 80)), some (.int (nI n))] rfl (Nat.le_of_ble_eq_true rfl) (by simp [Value.category]) rfl ?_
  have n12 := hX.n12
  have n32 := hX.n32
  refine xa_aload_n (pc := 0) dX2_carries_0 rfl ?_
  refine xa_getIv (pc := 1) 2 0 _ lfX2_26 dX2_carries_1 (hX.l_br hh hb).1 (kd_80 _) rfl (hX.h_kinds hh hb) ?_
  refine xa_iload_n (pc := 4) dX2_carries_4 rfl ?_
  refine xa_callSN (pc := 5) lcX2_29 dX2_carries_5 (cx_isIn E _ (n := n) rfl (by omega)) rfl rfl (by decide) (Nat.le_of_ble_eq_true rfl) (by decide) ?_
  rintro _ _ _ ⟨rfl, rfl, rfl⟩
  exact xa_zret dX2_carries_8 rfl (xa_b_nar _) ⟨rfl, rfl, rfl⟩
set_option maxHeartbeats 4000000 in
theorem cx_lotOf (E : xa_EV) {L : List Nat} {T : xa_AH} {R : xa_AR} {nh ns k : Nat} {pw : Nat → Nat} {S : xa_AH} (hX : RX nh ns k pw L T R S) {h : Nat} (hh : h < nh) : xa_Ct E mX7_lotOf [.ref (ci 0 129), .ref (ci h 0)] L T R (xa_pR (.int (xm_lot (nI h) (S 130 36))) T R) := by
  refine xa_Ct.of [some (.ref (ci 0 129)), some (.ref (ci h 0))] rfl (Nat.le_of_ble_eq_true rfl) (by simp [Value.category]) rfl ?_
  have n12 := hX.n12
  have n32 := hX.n32
  refine xa_iconst (pc := 0) (v := 5) dX7_lotOf_0 (by decide) ?_
  refine xa_aload_n (pc := 1) dX7_lotOf_1 rfl ?_
  refine xa_getIv (pc := 2) 3 0 _ lfX7_32 dX7_lotOf_2 ((hX.hS hh).1 0 (by decide)) (kd_0 _) rfl (hX.h_number hh) ?_
  refine xa_imul (pc := 5) dX7_lotOf_5 ?_
  refine xa_iconst (pc := 6) (v := 3) dX7_lotOf_6 (by decide) ?_
  refine xa_aload_n (pc := 7) dX7_lotOf_7 rfl ?_
  refine xa_getIv (pc := 8) 7 4 _ lfX7_62 dX7_lotOf_8 hX.c_m129 (kd_129 _) rfl hX.g_now ?_
  refine xa_imul (pc := 11) dX7_lotOf_11 ?_
  refine xa_iadd (pc := 12) dX7_lotOf_12 ?_
  refine xa_iconst (pc := 13) (v := 4) dX7_lotOf_13 (by decide) ?_
  refine xa_irem (pc := 14) dX7_lotOf_14 (by decide) ?_
  exact xa_zret dX7_lotOf_15 rfl rfl ⟨rfl, rfl, rfl⟩
def cq_pa (S : xa_AH) (h : Nat) : Bool := decide (xs S h = 1) && decide (xs S (xc (S 141 h)) = 2)
set_option maxHeartbeats 4000000 in
theorem cx_hasProxyAwake (E : xa_EV) {L : List Nat} {T : xa_AH} {R : xa_AR} {nh ns k : Nat} {pw : Nat → Nat} {S : xa_AH} (hX : RX nh ns k pw L T R S) {h : Nat} (hh : h < nh) : xa_Ct E mX7_hasProxyAwake [.ref (ci 0 129), .ref (ci h 0)] L T R (xa_pR (.int (xa_b (cq_pa S h))) T R) := by
  refine xa_Ct.of [some (.ref (ci 0 129)), some (.ref (ci h 0))] rfl (Nat.le_of_ble_eq_true rfl) (by simp [Value.category]) rfl ?_
  have n12 := hX.n12
  have n32 := hX.n32
  refine xa_aload_n (pc := 0) dX7_hasProxyAwake_0 rfl ?_
  refine xa_getIv (pc := 1) 3 8 _ lfX7_95 dX7_hasProxyAwake_1 ((hX.hS hh).1 0 (by decide)) (kd_0 _) rfl (hX.h_state hh) ?_
  refine xa_iconst (pc := 4) (v := 1) dX7_hasProxyAwake_4 (by decide) ?_
  refine xa_icmp_ne (pc := 5) 30 dX7_hasProxyAwake_5 (by decide) (fun h5 => ?_) (fun h5 => ?_)
  · refine xa_iconst (pc := 30) (v := 0) dX7_hasProxyAwake_30 (by decide) ?_
    exact xa_zret dX7_hasProxyAwake_31 rfl (by decide) ⟨xa_r0 (by simp [cq_pa, h5]), rfl, rfl⟩
  · refine xa_aload_n (pc := 8) dX7_hasProxyAwake_8 rfl ?_
    refine xa_getA (pc := 9) 3 10 (ci (xc (S 141 h)) 0) lfX7_96 dX7_hasProxyAwake_9 ((hX.hS hh).1 0 (by decide)) (kd_0 _) rfl (hX.h_px1 hh (xs1.mp h5).1) ?_
    refine xa_ifnull_ref (pc := 12) dX7_hasProxyAwake_12 ?_
    refine xa_aload_n (pc := 15) dX7_hasProxyAwake_15 rfl ?_
    refine xa_getA (pc := 16) 3 10 (ci (xc (S 141 h)) 0) lfX7_96 dX7_hasProxyAwake_16 ((hX.hS hh).1 0 (by decide)) (kd_0 _) rfl (hX.h_px1 hh (xs1.mp h5).1) ?_
    refine xa_getIv (pc := 19) 3 8 _ lfX7_95 dX7_hasProxyAwake_19 ((hX.hS (hX.pxl hh (xs1.mp h5).1)).1 0 (by decide)) (kd_0 _) rfl (hX.h_state (hX.pxl hh (xs1.mp h5).1)) ?_
    refine xa_iconst (pc := 22) (v := 2) dX7_hasProxyAwake_22 (by decide) ?_
    refine xa_icmp_ne (pc := 23) 30 dX7_hasProxyAwake_23 (by decide) (fun h23 => ?_) (fun h23 => ?_)
    · refine xa_iconst (pc := 30) (v := 0) dX7_hasProxyAwake_30 (by decide) ?_
      exact xa_zret dX7_hasProxyAwake_31 rfl (by decide) ⟨xa_r0 (by simp [cq_pa, h5, h23]), rfl, rfl⟩
    · refine xa_iconst (pc := 26) (v := 1) dX7_hasProxyAwake_26 (by decide) ?_
      refine xa_goto (pc := 27) (tgt := 31) dX7_hasProxyAwake_27 (by decide) ?_
      exact xa_zret dX7_hasProxyAwake_31 rfl (by decide) ⟨xa_r1 (by simp [cq_pa, h5, h23]), rfl, rfl⟩
def cq_so (S : xa_AH) (s : Nat) (net : Int32) : Bool := decide (S 151 s = 2) && (decide (S 156 s = 0) && (decide (S 131 (xc (S 146 s)) = net) && (decide (xs S (xc (S 146 s)) = 2) || cq_pa S (xc (S 146 s)))))
set_option maxHeartbeats 4000000 in
theorem cx_isSpokenForOn (E : xa_EV) {L : List Nat} {T : xa_AH} {R : xa_AR} {nh ns k : Nat} {pw : Nat → Nat} {S : xa_AH} (hX : RX nh ns k pw L T R S) {s : Nat} (hs : s < ns) (net : Int32) : xa_Ct E mX7_isSpokenForOn [.ref (ci 0 129), .ref (ci s 128), .int net] L T R (xa_pR (.int (xa_b (cq_so S s net))) T R) := by
  refine xa_Ct.of [some (.ref (ci 0 129)), some (.ref (ci s 128)), some (.int net)] rfl (Nat.le_of_ble_eq_true rfl) (by simp [Value.category]) rfl ?_
  have n12 := hX.n12
  have n32 := hX.n32
  refine xa_aload_n (pc := 0) dX7_isSpokenForOn_0 rfl ?_
  refine xa_getIv (pc := 1) 5 7 _ lfX7_59 dX7_isSpokenForOn_1 (hX.sM hs) (kd_128 _) rfl (hX.s_state hs) ?_
  refine xa_iconst (pc := 4) (v := 2) dX7_isSpokenForOn_4 (by decide) ?_
  refine xa_icmp_ne (pc := 5) 15 dX7_isSpokenForOn_5 (by decide) (fun h5 => ?_) (fun h5 => ?_)
  · refine xa_iconst (pc := 15) (v := 0) dX7_isSpokenForOn_15 (by decide) ?_
    exact xa_zret dX7_isSpokenForOn_16 rfl (by decide) ⟨xa_r0 (by simp [cq_so, h5]), rfl, rfl⟩
  · refine xa_aload_n (pc := 8) dX7_isSpokenForOn_8 rfl ?_
    refine xa_getIv (pc := 9) 5 4 _ lfX7_265 dX7_isSpokenForOn_9 (hX.sM hs) (kd_128 _) rfl (hX.s_isFalse hs) ?_
    refine xa_if_eq (pc := 12) 17 dX7_isSpokenForOn_12 (by decide) (fun h12 => ?_) (fun h12 => ?_)
    · refine xa_aload_n (pc := 17) dX7_isSpokenForOn_17 rfl ?_
      refine xa_getA (pc := 18) 5 1 (ci (xc (S 146 s)) 0) lfX7_106 dX7_isSpokenForOn_18 (hX.sM hs) (kd_128 _) rfl (hX.s_host hs) ?_
      refine xa_getIv (pc := 21) 3 7 _ lfX7_88 dX7_isSpokenForOn_21 ((hX.hS (hX.hO hs)).1 0 (by decide)) (kd_0 _) rfl (hX.h_net (hX.hO hs)) ?_
      refine xa_iload_n (pc := 24) dX7_isSpokenForOn_24 rfl ?_
      refine xa_icmp_ne (pc := 25) 54 dX7_isSpokenForOn_25 (by decide) (fun h25 => ?_) (fun h25 => ?_)
      · refine xa_iconst (pc := 54) (v := 0) dX7_isSpokenForOn_54 (by decide) ?_
        exact xa_zret dX7_isSpokenForOn_55 rfl (by decide) ⟨xa_r0 (by simp [cq_so, h5, h12, h25]), rfl, rfl⟩
      · refine xa_aload_n (pc := 28) dX7_isSpokenForOn_28 rfl ?_
        refine xa_getA (pc := 29) 5 1 (ci (xc (S 146 s)) 0) lfX7_106 dX7_isSpokenForOn_29 (hX.sM hs) (kd_128 _) rfl (hX.s_host hs) ?_
        refine xa_getIv (pc := 32) 3 8 _ lfX7_95 dX7_isSpokenForOn_32 ((hX.hS (hX.hO hs)).1 0 (by decide)) (kd_0 _) rfl (hX.h_state (hX.hO hs)) ?_
        refine xa_iconst (pc := 35) (v := 2) dX7_isSpokenForOn_35 (by decide) ?_
        refine xa_icmp_eq (pc := 36) 50 dX7_isSpokenForOn_36 (by decide) (fun h36 => ?_) (fun h36 => ?_)
        · refine xa_iconst (pc := 50) (v := 1) dX7_isSpokenForOn_50 (by decide) ?_
          refine xa_goto (pc := 51) (tgt := 55) dX7_isSpokenForOn_51 (by decide) ?_
          exact xa_zret dX7_isSpokenForOn_55 rfl (by decide) ⟨xa_r1 (by simp [cq_so, h5, h12, h25, h36]), rfl, rfl⟩
        · refine xa_aload_n (pc := 39) dX7_isSpokenForOn_39 rfl ?_
          refine xa_aload_n (pc := 40) dX7_isSpokenForOn_40 rfl ?_
          refine xa_getA (pc := 41) 5 1 (ci (xc (S 146 s)) 0) lfX7_106 dX7_isSpokenForOn_41 (hX.sM hs) (kd_128 _) rfl (hX.s_host hs) ?_
          refine xa_callV (pc := 44) hX.c_m129 (kd_129 _) rfl lcX7_210 dX7_isSpokenForOn_44 (cx_hasProxyAwake E hX (hX.hO hs)) rfl rfl (by decide) (Nat.le_of_ble_eq_true rfl) (by decide) ?_
          rintro _ _ _ ⟨rfl, rfl, rfl⟩
          refine xa_if_eq (pc := 47) 54 dX7_isSpokenForOn_47 (by decide) (fun h47 => ?_) (fun h47 => ?_)
          · have h47 := xa_b_0.mp h47
            refine xa_iconst (pc := 54) (v := 0) dX7_isSpokenForOn_54 (by decide) ?_
            exact xa_zret dX7_isSpokenForOn_55 rfl (by decide) ⟨xa_r0 (by simp [cq_so, h5, h12, h25, h36, h47]), rfl, rfl⟩
          · have h47 := xa_b_n0.mp h47
            refine xa_iconst (pc := 50) (v := 1) dX7_isSpokenForOn_50 (by decide) ?_
            refine xa_goto (pc := 51) (tgt := 55) dX7_isSpokenForOn_51 (by decide) ?_
            exact xa_zret dX7_isSpokenForOn_55 rfl (by decide) ⟨xa_r1 (by simp [cq_so, h5, h12, h25, h36, h47]), rfl, rfl⟩
    · refine xa_iconst (pc := 15) (v := 0) dX7_isSpokenForOn_15 (by decide) ?_
      exact xa_zret dX7_isSpokenForOn_16 rfl (by decide) ⟨xa_r0 (by simp [cq_so, h5, h12]), rfl, rfl⟩
def cq_fd (S : xa_AH) (h : Nat) (kd m : Int32) (s : Nat) : Bool := decide (¬ S 158 (32 * h + s) = 0) && (decide (S 147 s = kd) && decide (S 160 (32 * h + s) &&& m = m))
set_option maxHeartbeats 4000000 in
theorem cx_isFound (E : xa_EV) {L : List Nat} {T : xa_AH} {R : xa_AR} {nh ns k : Nat} {pw : Nat → Nat} {S : xa_AH} (hX : RX nh ns k pw L T R S) {h : Nat} (hh : h < nh) {s : Nat} {xs : Int32} (es : xs = nI s) (hs : s < ns) (kd m : Int32) : xa_Ct E mX7_isFound [.ref (ci 0 129), .ref (ci h 1), .int xs, .int kd, .int m] L T R (xa_pR (.int (xa_b (cq_fd S h kd m s))) T R) := by
  subst es
  refine xa_Ct.of [some (.ref (ci 0 129)), some (.ref (ci h 1)), some (.int (nI s)), some (.int kd), some (.int m)] rfl (Nat.le_of_ble_eq_true rfl) (by simp [Value.category]) rfl ?_
  have n12 := hX.n12
  have n32 := hX.n32
  refine xa_aload_n (pc := 0) dX7_isFound_0 rfl ?_
  refine xa_iload_n (pc := 1) dX7_isFound_1 rfl ?_
  refine xa_callV (pc := 2) ((hX.hS hh).1 1 (by decide)) (kd_1 _) rfl lcX7_191 dX7_isFound_2 (rq_has E hX hh (s := s) rfl (by omega)) rfl rfl (by decide) (Nat.le_of_ble_eq_true rfl) (by decide) ?_
  rintro _ _ _ ⟨rfl, rfl, rfl⟩
  refine xa_if_eq (pc := 5) 39 dX7_isFound_5 (by decide) (fun h5 => ?_) (fun h5 => ?_)
  · have h5 := xa_b_0.mp h5
    refine xa_iconst (pc := 39) (v := 0) dX7_isFound_39 (by decide) ?_
    exact xa_zret dX7_isFound_40 rfl (by decide) ⟨xa_r0 (by simp [cq_fd, h5]), rfl, rfl⟩
  · have h5 := xa_b_n0.mp h5
    refine xa_aload_n (pc := 8) dX7_isFound_8 rfl ?_
    refine xa_getA (pc := 9) 7 1 (ci 0 127) lfX7_17 dX7_isFound_9 hX.c_m129 (kd_129 _) rfl hX.c_r1 ?_
    refine xa_iload_n (pc := 12) dX7_isFound_12 rfl ?_
    refine xa_aaldS (pc := 13) s (ci s 128) dX7_isFound_13 hX.c_m127 rfl (by omega) (hX.sA (by omega)) ?_
    refine xa_getIv (pc := 14) 5 2 _ lfX7_268 dX7_isFound_14 (hX.sM (by omega)) (kd_128 _) rfl (hX.s_kind (by omega)) ?_
    refine xa_iload_n (pc := 17) dX7_isFound_17 rfl ?_
    refine xa_icmp_ne (pc := 18) 39 dX7_isFound_18 (by decide) (fun h18 => ?_) (fun h18 => ?_)
    · refine xa_iconst (pc := 39) (v := 0) dX7_isFound_39 (by decide) ?_
      exact xa_zret dX7_isFound_40 rfl (by decide) ⟨xa_r0 (by simp [cq_fd, h5, h18]), rfl, rfl⟩
    · refine xa_aload_n (pc := 21) dX7_isFound_21 rfl ?_
      refine xa_getA (pc := 22) 6 1 (ci h 3) lfX7_192 dX7_isFound_22 ((hX.hS hh).1 1 (by decide)) (kd_1 _) rfl ((hX.hS hh).2 (1, 1, 3) (by decide)) ?_
      refine xa_iload_n (pc := 25) dX7_isFound_25 rfl ?_
      refine xa_ialdC (pc := 26) s _ dX7_isFound_26 ((hX.hS hh).1 3 (by decide)) (kd_3 _) (ln_3 _) rfl (by omega) (by decide) (hX.r_marks hh (by omega)) ?_
      refine xa_iload (pc := 27) dX7_isFound_27 rfl ?_
      refine xa_iand (pc := 29) dX7_isFound_29 ?_
      refine xa_iload (pc := 30) dX7_isFound_30 rfl ?_
      refine xa_icmp_ne (pc := 32) 39 dX7_isFound_32 (by decide) (fun h32 => ?_) (fun h32 => ?_)
      · refine xa_iconst (pc := 39) (v := 0) dX7_isFound_39 (by decide) ?_
        exact xa_zret dX7_isFound_40 rfl (by decide) ⟨xa_r0 (by simp [cq_fd, h5, h18, h32]), rfl, rfl⟩
      · refine xa_iconst (pc := 35) (v := 1) dX7_isFound_35 (by decide) ?_
        refine xa_goto (pc := 36) (tgt := 40) dX7_isFound_36 (by decide) ?_
        exact xa_zret dX7_isFound_40 rfl (by decide) ⟨xa_r1 (by simp [cq_fd, h5, h18, h32]), rfl, rfl⟩
def cq_sp (S : xa_AH) (h s : Nat) : Bool := if xc (S 146 s) = h then decide (¬ S 151 s = 0) else decide (S 151 s = 2) && (decide (xs S (xc (S 146 s)) = 1) && decide (xc (S 141 (xc (S 146 s))) = h))
theorem RX.sp {nh ns k : Nat} {pw : Nat → Nat} {L : List Nat} {T : xa_AH} {R : xa_AR} {S : xa_AH} (hX : RX nh ns k pw L T R S) {h s : Nat} (hh : h < nh) (ha : S 136 h = 2) (hs : s < ns) : xm_spk S h s = cq_sp S h s := by
  have n12 := hX.n12
  unfold xm_spk cq_sp
  by_cases e : xc (S 146 s) = h
  · have e1 := (hX.own hs (by omega)).mpr e
    rw [if_pos e, if_pos e1, ha]; simp
  · have e1 : ¬ S 146 s = nI h := fun g => e ((hX.own hs (by omega)).mp g)
    simp only [e, e1, if_false]
    have ho := hX.hO hs
    by_cases g : S 136 (xc (S 146 s)) = 1
    · have l0 : S 137 (xc (S 146 s)) = 0 := by
        rcases hX.ih_lv ho with q | q
        · exact q
        · rw [q.2] at g; exact absurd g (by decide)
      have p1 := hX.pxe ho g
      have p2 := hX.pxl ho g
      have q : S 141 (xc (S 146 s)) = nI h ↔ xc (S 141 (xc (S 146 s))) = h := by
        constructor
        · intro q; rw [q]; exact xc_n (by omega)
        · intro q; rw [← q]; exact p1
      by_cases q1 : S 151 s = 2
      · simp [q1, xs1, g, l0, q]
      · simp [q1]
    · have g1 : ¬ xs S (xc (S 146 s)) = 1 := fun q => g (xs1.mp q).1
      simp [g, g1]
set_option maxHeartbeats 4000000 in
theorem cx_sp (E : xa_EV) {L : List Nat} {T : xa_AH} {R : xa_AR} {nh ns k : Nat} {pw : Nat → Nat} {S : xa_AH} (hX : RX nh ns k pw L T R S) {h s : Nat} (hh : h < nh) (hs : s < ns) : xa_Ct E mX7_speaksFor [.ref (ci 0 129), .ref (ci h 0), .ref (ci s 128)] L T R (xa_pR (.int (xa_b (cq_sp S h s))) T R) := by
  refine xa_Ct.of [some (.ref (ci 0 129)), some (.ref (ci h 0)), some (.ref (ci s 128))] rfl (Nat.le_of_ble_eq_true rfl) (by simp [Value.category]) rfl ?_
  have n12 := hX.n12
  have n32 := hX.n32
  refine xa_aload_n (pc := 0) dX7_speaksFor_0 rfl ?_
  refine xa_getA (pc := 1) 5 1 (ci (xc (S 146 s)) 0) lfX7_106 dX7_speaksFor_1 (hX.sM hs) (kd_128 _) rfl (hX.s_host hs) ?_
  refine xa_aload_n (pc := 4) dX7_speaksFor_4 rfl ?_
  refine xa_acmpC_ne (pc := 5) 21 (x := (ci (xc (S 146 s)) 0)) (y := (ci h 0)) dX7_speaksFor_5 (by decide) ((hX.hS (hX.hO hs)).1 0 (by decide)) ((hX.hS hh).1 0 (by decide)) (fun h5 => ?_) (fun h5 => ?_)
  · have h5 : ¬ ((xc (S 146 s)) = h) := fun q => h5 (ci_i.mpr q)
    refine xa_aload_n (pc := 21) dX7_speaksFor_21 rfl ?_
    refine xa_getIv (pc := 22) 5 7 _ lfX7_59 dX7_speaksFor_22 (hX.sM hs) (kd_128 _) rfl (hX.s_state hs) ?_
    refine xa_iconst (pc := 25) (v := 2) dX7_speaksFor_25 (by decide) ?_
    refine xa_icmp_ne (pc := 26) 55 dX7_speaksFor_26 (by decide) (fun h26 => ?_) (fun h26 => ?_)
    · refine xa_iconst (pc := 55) (v := 0) dX7_speaksFor_55 (by decide) ?_
      exact xa_zret dX7_speaksFor_56 rfl (by decide) ⟨xa_r0 (by simp [cq_sp, h5, h26]), rfl, rfl⟩
    · refine xa_aload_n (pc := 29) dX7_speaksFor_29 rfl ?_
      refine xa_getA (pc := 30) 5 1 (ci (xc (S 146 s)) 0) lfX7_106 dX7_speaksFor_30 (hX.sM hs) (kd_128 _) rfl (hX.s_host hs) ?_
      refine xa_getIv (pc := 33) 3 8 _ lfX7_95 dX7_speaksFor_33 ((hX.hS (hX.hO hs)).1 0 (by decide)) (kd_0 _) rfl (hX.h_state (hX.hO hs)) ?_
      refine xa_iconst (pc := 36) (v := 1) dX7_speaksFor_36 (by decide) ?_
      refine xa_icmp_ne (pc := 37) 55 dX7_speaksFor_37 (by decide) (fun h37 => ?_) (fun h37 => ?_)
      · refine xa_iconst (pc := 55) (v := 0) dX7_speaksFor_55 (by decide) ?_
        exact xa_zret dX7_speaksFor_56 rfl (by decide) ⟨xa_r0 (by simp [cq_sp, h5, h26, h37]), rfl, rfl⟩
      · refine xa_aload_n (pc := 40) dX7_speaksFor_40 rfl ?_
        refine xa_getA (pc := 41) 5 1 (ci (xc (S 146 s)) 0) lfX7_106 dX7_speaksFor_41 (hX.sM hs) (kd_128 _) rfl (hX.s_host hs) ?_
        refine xa_getA (pc := 44) 3 10 (ci (xc (S 141 (xc (S 146 s)))) 0) lfX7_96 dX7_speaksFor_44 ((hX.hS (hX.hO hs)).1 0 (by decide)) (kd_0 _) rfl (hX.h_px1 (hX.hO hs) (xs1.mp h37).1) ?_
        refine xa_aload_n (pc := 47) dX7_speaksFor_47 rfl ?_
        refine xa_acmpC_ne (pc := 48) 55 (x := (ci (xc (S 141 (xc (S 146 s)))) 0)) (y := (ci h 0)) dX7_speaksFor_48 (by decide) ((hX.hS (hX.pxl (hX.hO hs) (xs1.mp h37).1)).1 0 (by decide)) ((hX.hS hh).1 0 (by decide)) (fun h48 => ?_) (fun h48 => ?_)
        · have h48 : ¬ ((xc (S 141 (xc (S 146 s)))) = h) := fun q => h48 (ci_i.mpr q)
          refine xa_iconst (pc := 55) (v := 0) dX7_speaksFor_55 (by decide) ?_
          exact xa_zret dX7_speaksFor_56 rfl (by decide) ⟨xa_r0 (by simp [cq_sp, h5, h26, h37, h48]), rfl, rfl⟩
        · have h48 := ci_i.mp h48
          refine xa_iconst (pc := 51) (v := 1) dX7_speaksFor_51 (by decide) ?_
          refine xa_goto (pc := 52) (tgt := 56) dX7_speaksFor_52 (by decide) ?_
          exact xa_zret dX7_speaksFor_56 rfl (by decide) ⟨xa_r1 (by simp [cq_sp, h5, h26, h37, h48]), rfl, rfl⟩
  · have h5 := ci_i.mp h5
    refine xa_aload_n (pc := 8) dX7_speaksFor_8 rfl ?_
    refine xa_getIv (pc := 9) 5 7 _ lfX7_59 dX7_speaksFor_9 (hX.sM hs) (kd_128 _) rfl (hX.s_state hs) ?_
    refine xa_if_eq (pc := 12) 19 dX7_speaksFor_12 (by decide) (fun h12 => ?_) (fun h12 => ?_)
    · refine xa_iconst (pc := 19) (v := 0) dX7_speaksFor_19 (by decide) ?_
      exact xa_zret dX7_speaksFor_20 rfl (by decide) ⟨xa_r0 (by simp [cq_sp, h5, h12]), rfl, rfl⟩
    · refine xa_iconst (pc := 15) (v := 1) dX7_speaksFor_15 (by decide) ?_
      refine xa_goto (pc := 16) (tgt := 20) dX7_speaksFor_16 (by decide) ?_
      exact xa_zret dX7_speaksFor_20 rfl (by decide) ⟨xa_r1 (by simp [cq_sp, h5, h12]), rfl, rfl⟩
theorem cx_speaksFor (E : xa_EV) {L : List Nat} {T : xa_AH} {R : xa_AR} {nh ns k : Nat} {pw : Nat → Nat} {S : xa_AH} (hX : RX nh ns k pw L T R S) {h s : Nat} (hh : h < nh) (ha : S 136 h = 2) (hs : s < ns) : xa_Ct E mX7_speaksFor [.ref (ci 0 129), .ref (ci h 0), .ref (ci s 128)] L T R (xa_pR (.int (xa_b (xm_spk S h s))) T R) := by
  rw [hX.sp hh ha hs]; exact cx_sp E hX hh hs
def cq_st (S : xa_AH) (a b : Nat) : Bool := if xc (S 146 a) = xc (S 146 b) then decide (a < b) else if S 135 (xc (S 146 a)) = S 135 (xc (S 146 b)) then decide (xc (S 146 a) < xc (S 146 b)) else decide (¬ S 135 (xc (S 146 a)) ≤ S 135 (xc (S 146 b)))
theorem RX.str {nh ns k : Nat} {pw : Nat → Nat} {L : List Nat} {T : xa_AH} {R : xa_AR} {S : xa_AH} (hX : RX nh ns k pw L T R S) {a b : Nat} (ha : a < ns) (hb : b < ns) : xm_str S a b = cq_st S a b := by
  have n12 := hX.n12
  have ea := hX.hE ha
  have eb := hX.hE hb
  have la := hX.hO ha
  have lb := hX.hO hb
  unfold xm_str cq_st
  by_cases e : xc (S 146 a) = xc (S 146 b)
  · have e2 : S 146 a = S 146 b := by rw [ea, eb, e]
    simp [e2]
  · have e2 : ¬ S 146 a = S 146 b := fun g => e (by rw [g])
    by_cases g : S 135 (xc (S 146 a)) = S 135 (xc (S 146 b))
    · have q : S 146 b ≤ S 146 a ↔ ¬ xc (S 146 a) < xc (S 146 b) := by
        rw [ea, eb, nI_leI (by omega) (by omega), xc_n (by omega), xc_n (by omega)]; omega
      simp [e, e2, g, q]
    · simp [e, g]
set_option maxHeartbeats 4000000 in
theorem cx_st (E : xa_EV) {L : List Nat} {T : xa_AH} {R : xa_AR} {nh ns k : Nat} {pw : Nat → Nat} {S : xa_AH} (hX : RX nh ns k pw L T R S) {a b : Nat} (ha : a < ns) (hb : b < ns) : xa_Ct E mX7_isStronger [.ref (ci 0 129), .ref (ci a 128), .ref (ci b 128)] L T R (xa_pR (.int (xa_b (cq_st S a b))) T R) := by
  refine xa_Ct.of [some (.ref (ci 0 129)), some (.ref (ci a 128)), some (.ref (ci b 128))] rfl (Nat.le_of_ble_eq_true rfl) (by simp [Value.category]) rfl ?_
  have n12 := hX.n12
  have n32 := hX.n32
  have la := hX.hO ha
  have lb := hX.hO hb
  refine xa_aload_n (pc := 0) dX7_isStronger_0 rfl ?_
  refine xa_getA (pc := 1) 5 1 (ci (xc (S 146 a)) 0) lfX7_106 dX7_isStronger_1 (hX.sM ha) (kd_128 _) rfl (hX.s_host ha) ?_
  refine xa_aload_n (pc := 4) dX7_isStronger_4 rfl ?_
  refine xa_getA (pc := 5) 5 1 (ci (xc (S 146 b)) 0) lfX7_106 dX7_isStronger_5 (hX.sM hb) (kd_128 _) rfl (hX.s_host hb) ?_
  refine xa_acmpC_ne (pc := 8) 28 (x := (ci (xc (S 146 a)) 0)) (y := (ci (xc (S 146 b)) 0)) dX7_isStronger_8 (by decide) ((hX.hS (hX.hO ha)).1 0 (by decide)) ((hX.hS (hX.hO hb)).1 0 (by decide)) (fun h8 => ?_) (fun h8 => ?_)
  · have h8 : ¬ ((xc (S 146 a)) = (xc (S 146 b))) := fun q => h8 (ci_i.mpr q)
    refine xa_aload_n (pc := 28) dX7_isStronger_28 rfl ?_
    refine xa_getA (pc := 29) 5 1 (ci (xc (S 146 a)) 0) lfX7_106 dX7_isStronger_29 (hX.sM ha) (kd_128 _) rfl (hX.s_host ha) ?_
    refine xa_getIv (pc := 32) 3 3 _ lfX7_271 dX7_isStronger_32 ((hX.hS (hX.hO ha)).1 0 (by decide)) (kd_0 _) rfl (hX.h_rank (hX.hO ha)) ?_
    refine xa_aload_n (pc := 35) dX7_isStronger_35 rfl ?_
    refine xa_getA (pc := 36) 5 1 (ci (xc (S 146 b)) 0) lfX7_106 dX7_isStronger_36 (hX.sM hb) (kd_128 _) rfl (hX.s_host hb) ?_
    refine xa_getIv (pc := 39) 3 3 _ lfX7_271 dX7_isStronger_39 ((hX.hS (hX.hO hb)).1 0 (by decide)) (kd_0 _) rfl (hX.h_rank (hX.hO hb)) ?_
    refine xa_icmp_eq (pc := 42) 68 dX7_isStronger_42 (by decide) (fun h42 => ?_) (fun h42 => ?_)
    · refine xa_aload_n (pc := 68) dX7_isStronger_68 rfl ?_
      refine xa_getA (pc := 69) 5 1 (ci (xc (S 146 a)) 0) lfX7_106 dX7_isStronger_69 (hX.sM ha) (kd_128 _) rfl (hX.s_host ha) ?_
      refine xa_getIv (pc := 72) 3 0 _ lfX7_32 dX7_isStronger_72 ((hX.hS (hX.hO ha)).1 0 (by decide)) (kd_0 _) rfl (hX.h_number (hX.hO ha)) ?_
      refine xa_aload_n (pc := 75) dX7_isStronger_75 rfl ?_
      refine xa_getA (pc := 76) 5 1 (ci (xc (S 146 b)) 0) lfX7_106 dX7_isStronger_76 (hX.sM hb) (kd_128 _) rfl (hX.s_host hb) ?_
      refine xa_getIv (pc := 79) 3 0 _ lfX7_32 dX7_isStronger_79 ((hX.hS (hX.hO hb)).1 0 (by decide)) (kd_0 _) rfl (hX.h_number (hX.hO hb)) ?_
      refine xa_icmpN_ge (pc := 82) 89 (xc (S 146 a)) (xc (S 146 b)) dX7_isStronger_82 (by decide) rfl rfl (by omega) (by omega) (fun h82 => ?_) (fun h82 => ?_)
      · have g82 : ¬ ((xc (S 146 a)) < (xc (S 146 b))) := by omega
        refine xa_iconst (pc := 89) (v := 0) dX7_isStronger_89 (by decide) ?_
        exact xa_zret dX7_isStronger_90 rfl (by decide) ⟨xa_r0 (by simp [cq_st, h8, h42, h82, g82]), rfl, rfl⟩
      · refine xa_iconst (pc := 85) (v := 1) dX7_isStronger_85 (by decide) ?_
        refine xa_goto (pc := 86) (tgt := 90) dX7_isStronger_86 (by decide) ?_
        exact xa_zret dX7_isStronger_90 rfl (by decide) ⟨xa_r1 (by simp [cq_st, h8, h42, h82]), rfl, rfl⟩
    · refine xa_aload_n (pc := 45) dX7_isStronger_45 rfl ?_
      refine xa_getA (pc := 46) 5 1 (ci (xc (S 146 a)) 0) lfX7_106 dX7_isStronger_46 (hX.sM ha) (kd_128 _) rfl (hX.s_host ha) ?_
      refine xa_getIv (pc := 49) 3 3 _ lfX7_271 dX7_isStronger_49 ((hX.hS (hX.hO ha)).1 0 (by decide)) (kd_0 _) rfl (hX.h_rank (hX.hO ha)) ?_
      refine xa_aload_n (pc := 52) dX7_isStronger_52 rfl ?_
      refine xa_getA (pc := 53) 5 1 (ci (xc (S 146 b)) 0) lfX7_106 dX7_isStronger_53 (hX.sM hb) (kd_128 _) rfl (hX.s_host hb) ?_
      refine xa_getIv (pc := 56) 3 3 _ lfX7_271 dX7_isStronger_56 ((hX.hS (hX.hO hb)).1 0 (by decide)) (kd_0 _) rfl (hX.h_rank (hX.hO hb)) ?_
      refine xa_icmp_le (pc := 59) 66 dX7_isStronger_59 (by decide) (fun h59 => ?_) (fun h59 => ?_)
      · refine xa_iconst (pc := 66) (v := 0) dX7_isStronger_66 (by decide) ?_
        exact xa_zret dX7_isStronger_67 rfl (by decide) ⟨xa_r0 (by simp [cq_st, h8, h42, h59, Int32.not_lt.mpr h59]), rfl, rfl⟩
      · refine xa_iconst (pc := 62) (v := 1) dX7_isStronger_62 (by decide) ?_
        refine xa_goto (pc := 63) (tgt := 67) dX7_isStronger_63 (by decide) ?_
        exact xa_zret dX7_isStronger_67 rfl (by decide) ⟨xa_r1 (by simp [cq_st, h8, h42, h59, Int32.not_le.mp h59]), rfl, rfl⟩
  · have h8 := ci_i.mp h8
    refine xa_aload_n (pc := 11) dX7_isStronger_11 rfl ?_
    refine xa_getIv (pc := 12) 5 0 _ lfX7_264 dX7_isStronger_12 (hX.sM ha) (kd_128 _) rfl (hX.s_number ha) ?_
    refine xa_aload_n (pc := 15) dX7_isStronger_15 rfl ?_
    refine xa_getIv (pc := 16) 5 0 _ lfX7_264 dX7_isStronger_16 (hX.sM hb) (kd_128 _) rfl (hX.s_number hb) ?_
    refine xa_icmpN_ge (pc := 19) 26 a b dX7_isStronger_19 (by decide) rfl rfl (by omega) (by omega) (fun h19 => ?_) (fun h19 => ?_)
    · have g19 : ¬ (a < b) := by omega
      refine xa_iconst (pc := 26) (v := 0) dX7_isStronger_26 (by decide) ?_
      exact xa_zret dX7_isStronger_27 rfl (by decide) ⟨xa_r0 (by simp [cq_st, h8, h19, g19]), rfl, rfl⟩
    · refine xa_iconst (pc := 22) (v := 1) dX7_isStronger_22 (by decide) ?_
      refine xa_goto (pc := 23) (tgt := 27) dX7_isStronger_23 (by decide) ?_
      exact xa_zret dX7_isStronger_27 rfl (by decide) ⟨xa_r1 (by simp [cq_st, h8, h19]), rfl, rfl⟩
theorem cx_isStronger (E : xa_EV) {L : List Nat} {T : xa_AH} {R : xa_AR} {nh ns k : Nat} {pw : Nat → Nat} {S : xa_AH} (hX : RX nh ns k pw L T R S) {a b : Nat} (ha : a < ns) (hb : b < ns) : xa_Ct E mX7_isStronger [.ref (ci 0 129), .ref (ci a 128), .ref (ci b 128)] L T R (xa_pR (.int (xa_b (xm_str S a b))) T R) := by
  rw [hX.str ha hb]; exact cx_st E hX ha hb
