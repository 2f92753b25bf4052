theorem xs2 {S : xa_AH} {h : Nat} : xs S h = 2 ↔ S 136 h = 2 ∧ S 137 h = 0 := by
  unfold xs; by_cases g : S 137 h = 0
  · simp [g]
  · simp [g]
theorem xs1 {S : xa_AH} {h : Nat} : xs S h = 1 ↔ S 136 h = 1 ∧ S 137 h = 0 := by
  unfold xs; by_cases g : S 137 h = 0
  · simp [g]
  · simp [g]
theorem xs0 {S : xa_AH} {h : Nat} : xs S h = 0 ↔ S 136 h = 0 ∧ S 137 h = 0 := by
  unfold xs; by_cases g : S 137 h = 0
  · simp [g]
  · simp [g]
theorem xs3 {S : xa_AH} {h : Nat} (g : S 136 h = 0 ∨ S 136 h = 1 ∨ S 136 h = 2) : xs S h = 3 ↔ ¬ S 137 h = 0 := by
  unfold xs; by_cases q : S 137 h = 0
  · rcases g with g | g | g <;> simp [q, g]
  · simp [q]
theorem vin_of {n : Int32} {nh : Nat} (hn : nh ≤ 100) (h0 : ¬ n < 0) (h1 : ¬ nI nh ≤ n) : vp_in n nh := by
  rw [vp_in_iff]
  simp only [fa_lt, fa_le, nI_toInt (show nh < 2 ^ 31 by omega)] at h0 h1
  have e : (0 : Int32).toInt = 0 := rfl
  rw [e] at h0; omega
theorem isH_f1 {n : Int32} {nh : Nat} (hn : nh ≤ 100) (h0 : n < 0) : xm_isH nh n = false := by
  cases h : xm_isH nh n with
  | false => rfl
  | true =>
    have := vp_in_iff.mp ((xm_isH_t hn).mp h)
    rw [fa_lt] at h0
    have e : (0 : Int32).toInt = 0 := rfl
    rw [e] at h0; omega
theorem isH_f2 {n : Int32} {nh : Nat} (hn : nh ≤ 100) (h0 : nI nh ≤ n) : xm_isH nh n = false := by
  cases h : xm_isH nh n with
  | false => rfl
  | true =>
    have := vp_in_iff.mp ((xm_isH_t hn).mp h)
    rw [fa_le, nI_toInt (show nh < 2 ^ 31 by omega)] at h0
    omega
theorem isH_lt {n : Int32} {nh : Nat} (hn : nh ≤ 100) (h : xm_isH nh n = true) : xc n < nh := xa_in_lt ((xm_isH_t hn).mp h)
theorem isH_eq {n : Int32} {nh : Nat} (hn : nh ≤ 100) (h : xm_isH nh n = true) : n = nI (xc n) := xa_in_eq ((xm_isH_t hn).mp h)
section CQ1
variable {nh ns k : Nat} {pw : Nat → Nat} {L : List Nat} {T : xa_AH} {R : xa_AR} {S : xa_AH}
theorem RX.h100 (hX : RX nh ns k pw L T R S) : nh ≤ 100 := Nat.le_trans hX.n12 (by decide)
theorem RX.s100 (hX : RX nh ns k pw L T R S) : ns ≤ 100 := Nat.le_trans hX.n32 (by decide)
theorem RX.pxl (hX : RX nh ns k pw L T R S) {h : Nat} (hh : h < nh) (h1 : S 136 h = 1) : xc (S 141 h) < nh := xa_in_lt (hX.ih_px hh h1).1
theorem RX.pxe (hX : RX nh ns k pw L T R S) {h : Nat} (hh : h < nh) (h1 : S 136 h = 1) : S 141 h = nI (xc (S 141 h)) := xa_in_eq (hX.ih_px hh h1).1
theorem RX.own (hX : RX nh ns k pw L T R S) {s h : Nat} (hs : s < ns) (hh : h < 12) : S 146 s = nI h ↔ xc (S 146 s) = h := by
  constructor
  · intro e; rw [e]; exact xc_n (by omega)
  · intro e; rw [← e]; exact hX.hE hs
end CQ1
theorem aw_lt {nh : Nat} {S : xa_AH} {n : Int32} (hn : nh ≤ 100) (h : xm_up nh S n = true) : xc n < nh := isH_lt hn (xm_up_h h)
theorem xm_up_e {nh : Nat} {S : xa_AH} {n : Int32} (h : xm_isH nh n = true) : xm_up nh S n = decide (xs S (xc n) = 2) := by
  simp [xm_up, xm_aw, h, xs2]
def xm_hlp (nh : Nat) (S : xa_AH) (n : Int32) : Bool := xm_up nh S n && decide (S 139 (xc n) = 0)
theorem hlp_up {nh : Nat} {S : xa_AH} {n : Int32} (h : xm_hlp nh S n = true) : xm_up nh S n = true := by
  rw [xm_hlp, Bool.and_eq_true] at h; exact h.1
theorem hlp_b {nh : Nat} {S : xa_AH} {n : Int32} (h : xm_hlp nh S n = true) : S 139 (xc n) = 0 := by
  rw [xm_hlp, Bool.and_eq_true] at h; simpa using h.2
set_option maxHeartbeats 4000000 in
theorem cx_hostAt (E : xa_EV) {L : List Nat} {T : xa_AH} {R : xa_AR} {nh ns k : Nat} {pw : Nat → Nat} {S : xa_AH} (hX : RX nh ns k pw L T R S) (n : Int32) : xa_Ct E mX7_hostAt [.ref (ci 0 129), .int n] L T R (xa_pH (xm_isH nh n) (ci (xc n) 0) T R) := by
  refine xa_Ct.of [some (.ref (ci 0 129)), some (.int n)] rfl (Nat.le_of_ble_eq_true rfl) (by simp [Value.category]) rfl ?_
  have n12 := hX.n12
  have n32 := hX.n32
  refine xa_iload_n (pc := 0) dX7_hostAt_0 rfl ?_
  refine xa_if_lt (pc := 1) 21 dX7_hostAt_1 (by decide) (fun h1 => ?_) (fun h1 => ?_)
  · refine xa_null (pc := 21) dX7_hostAt_21 ?_
    exact xa_aret none dX7_hostAt_22 rfl ⟨Or.inr ⟨isH_f1 hX.h100 h1, rfl⟩, rfl, rfl⟩
  · refine xa_iload_n (pc := 4) dX7_hostAt_4 rfl ?_
    refine xa_aload_n (pc := 5) dX7_hostAt_5 rfl ?_
    refine xa_getIv (pc := 6) 7 2 _ lfX7_25 dX7_hostAt_6 hX.c_m129 (kd_129 _) rfl hX.g_nh ?_
    refine xa_icmp_ge (pc := 9) 21 dX7_hostAt_9 (by decide) (fun h9 => ?_) (fun h9 => ?_)
    · refine xa_null (pc := 21) dX7_hostAt_21 ?_
      exact xa_aret none dX7_hostAt_22 rfl ⟨Or.inr ⟨isH_f2 hX.h100 h9, rfl⟩, rfl, rfl⟩
    · have hv := vin_of hX.h100 h1 h9
      have hb : xc n < nh := xa_in_lt hv
      refine xa_aload_n (pc := 12) dX7_hostAt_12 rfl ?_
      refine xa_getA (pc := 13) 7 0 (ci 0 126) lfX7_11 dX7_hostAt_13 hX.c_m129 (kd_129 _) rfl hX.c_r0 ?_
      refine xa_iload_n (pc := 16) dX7_hostAt_16 rfl ?_
      refine xa_aaldH (pc := 17) (xc n) (ci (xc n) 0) dX7_hostAt_17 hX.c_m126 (xa_in_eq hv) (by omega) (hX.hA (by omega)) ?_
      refine xa_goto (pc := 18) (tgt := 22) dX7_hostAt_18 (by decide) ?_
      exact xa_aret (some (ci (xc n) 0)) dX7_hostAt_22 rfl ⟨Or.inl ⟨(xm_isH_t hX.h100).mpr hv, rfl⟩, rfl, rfl⟩
set_option maxHeartbeats 4000000 in
theorem cx_serviceAt (E : xa_EV) {L : List Nat} {T : xa_AH} {R : xa_AR} {nh ns k : Nat} {pw : Nat → Nat} {S : xa_AH} (hX : RX nh ns k pw L T R S) (n : Int32) : xa_Ct E mX7_serviceAt [.ref (ci 0 129), .int n] L T R (xa_pH (xm_isH ns n) (ci (xc n) 128) T R) := by
  refine xa_Ct.of [some (.ref (ci 0 129)), some (.int n)] rfl (Nat.le_of_ble_eq_true rfl) (by simp [Value.category]) rfl ?_
  have n12 := hX.n12
  have n32 := hX.n32
  refine xa_iload_n (pc := 0) dX7_serviceAt_0 rfl ?_
  refine xa_if_lt (pc := 1) 21 dX7_serviceAt_1 (by decide) (fun h1 => ?_) (fun h1 => ?_)
  · refine xa_null (pc := 21) dX7_serviceAt_21 ?_
    exact xa_aret none dX7_serviceAt_22 rfl ⟨Or.inr ⟨isH_f1 hX.s100 h1, rfl⟩, rfl, rfl⟩
  · refine xa_iload_n (pc := 4) dX7_serviceAt_4 rfl ?_
    refine xa_aload_n (pc := 5) dX7_serviceAt_5 rfl ?_
    refine xa_getIv (pc := 6) 7 3 _ lfX7_103 dX7_serviceAt_6 hX.c_m129 (kd_129 _) rfl hX.g_ns ?_
    refine xa_icmp_ge (pc := 9) 21 dX7_serviceAt_9 (by decide) (fun h9 => ?_) (fun h9 => ?_)
    · refine xa_null (pc := 21) dX7_serviceAt_21 ?_
      exact xa_aret none dX7_serviceAt_22 rfl ⟨Or.inr ⟨isH_f2 hX.s100 h9, rfl⟩, rfl, rfl⟩
    · have hv := vin_of hX.s100 h1 h9
      have hb : xc n < ns := xa_in_lt hv
      refine xa_aload_n (pc := 12) dX7_serviceAt_12 rfl ?_
      refine xa_getA (pc := 13) 7 1 (ci 0 127) lfX7_17 dX7_serviceAt_13 hX.c_m129 (kd_129 _) rfl hX.c_r1 ?_
      refine xa_iload_n (pc := 16) dX7_serviceAt_16 rfl ?_
      refine xa_aaldS (pc := 17) (xc n) (ci (xc n) 128) dX7_serviceAt_17 hX.c_m127 (xa_in_eq hv) (by omega) (hX.sA (by omega)) ?_
      refine xa_goto (pc := 18) (tgt := 22) dX7_serviceAt_18 (by decide) ?_
      exact xa_aret (some (ci (xc n) 128)) dX7_serviceAt_22 rfl ⟨Or.inl ⟨(xm_isH_t hX.s100).mpr hv, rfl⟩, rfl, rfl⟩
set_option maxHeartbeats 4000000 in
theorem cx_stayingHost (E : xa_EV) {L : List Nat} {T : xa_AH} {R : xa_AR} {nh ns k : Nat} {pw : Nat → Nat} {S : xa_AH} (hX : RX nh ns k pw L T R S) (n : Int32) : xa_Ct E mX7_stayingHost [.ref (ci 0 129), .int n] L T R (xa_pH (xm_up nh S n) (ci (xc n) 0) T R) := by
  refine xa_Ct.of [some (.ref (ci 0 129)), some (.int n), none] rfl (Nat.le_of_ble_eq_true rfl) (by simp [Value.category]) rfl ?_
  have n12 := hX.n12
  have n32 := hX.n32
  refine xa_aload_n (pc := 0) dX7_stayingHost_0 rfl ?_
  refine xa_iload_n (pc := 1) dX7_stayingHost_1 rfl ?_
  refine xa_callV (pc := 2) hX.c_m129 (kd_129 _) rfl lcX7_100 dX7_stayingHost_2 (cx_hostAt E hX _) rfl rfl (by decide) (Nat.le_of_ble_eq_true rfl) (by decide) ?_
  rintro _ _ _ ⟨⟨hq2, rfl⟩ | ⟨hq2, rfl⟩, rfl, rfl⟩
  · refine xa_astore_n (pc := 5) dX7_stayingHost_5 (by decide) ?_
    refine xa_aload_n (pc := 6) dX7_stayingHost_6 rfl ?_
    refine xa_ifnull_ref (pc := 7) dX7_stayingHost_7 ?_
    refine xa_aload_n (pc := 10) dX7_stayingHost_10 rfl ?_
    refine xa_getIv (pc := 11) 3 8 _ lfX7_95 dX7_stayingHost_11 ((hX.hS (isH_lt hX.h100 hq2)).1 0 (by decide)) (kd_0 _) rfl (hX.h_state (isH_lt hX.h100 hq2)) ?_
    refine xa_iconst (pc := 14) (v := 2) dX7_stayingHost_14 (by decide) ?_
    refine xa_icmp_ne (pc := 15) 22 dX7_stayingHost_15 (by decide) (fun h15 => ?_) (fun h15 => ?_)
    · refine xa_null (pc := 22) dX7_stayingHost_22 ?_
      exact xa_aret none dX7_stayingHost_23 rfl ⟨Or.inr ⟨by rw [xm_up_e hq2]; simp [hq2, h15], rfl⟩, rfl, rfl⟩
    · refine xa_aload_n (pc := 18) dX7_stayingHost_18 rfl ?_
      refine xa_goto (pc := 19) (tgt := 23) dX7_stayingHost_19 (by decide) ?_
      exact xa_aret (some (ci (xc n) 0)) dX7_stayingHost_23 rfl ⟨Or.inl ⟨by rw [xm_up_e hq2]; simp [hq2, h15], rfl⟩, rfl, rfl⟩
  · refine xa_astore_nN (pc := 5) dX7_stayingHost_5 (by decide) ?_
    refine xa_aload_nN (pc := 6) dX7_stayingHost_6 rfl ?_
    refine xa_ifnull_null (pc := 7) 22 dX7_stayingHost_7 (by decide) ?_
    refine xa_null (pc := 22) dX7_stayingHost_22 ?_
    exact xa_aret none dX7_stayingHost_23 rfl ⟨Or.inr ⟨by simp [xm_up, xm_aw, hq2], rfl⟩, rfl, rfl⟩
set_option maxHeartbeats 4000000 in
theorem cx_stayingHelper (E : xa_EV) {L : List Nat} {T : xa_AH} {R : xa_AR} {nh ns k : Nat} {pw : Nat → Nat} {S : xa_AH} (hX : RX nh ns k pw L T R S) (n : Int32) : xa_Ct E mX7_stayingHelper [.ref (ci 0 129), .int n] L T R (xa_pH (xm_hlp nh S n) (ci (xc n) 0) T R) := by
  refine xa_Ct.of [some (.ref (ci 0 129)), some (.int n), none] rfl (Nat.le_of_ble_eq_true rfl) (by simp [Value.category]) rfl ?_
  have n12 := hX.n12
  have n32 := hX.n32
  refine xa_aload_n (pc := 0) dX7_stayingHelper_0 rfl ?_
  refine xa_iload_n (pc := 1) dX7_stayingHelper_1 rfl ?_
  refine xa_callV (pc := 2) hX.c_m129 (kd_129 _) rfl lcX7_115 dX7_stayingHelper_2 (cx_stayingHost E hX _) rfl rfl (by decide) (Nat.le_of_ble_eq_true rfl) (by decide) ?_
  rintro _ _ _ ⟨⟨hq2, rfl⟩ | ⟨hq2, rfl⟩, rfl, rfl⟩
  · refine xa_astore_n (pc := 5) dX7_stayingHelper_5 (by decide) ?_
    refine xa_aload_n (pc := 6) dX7_stayingHelper_6 rfl ?_
    refine xa_ifnull_ref (pc := 7) dX7_stayingHelper_7 ?_
    refine xa_aload_n (pc := 10) dX7_stayingHelper_10 rfl ?_
    by_cases hb11 : S 139 (xc n) = 0
    · refine xa_getR (pc := 11) 3 11 none lfX7_155 dX7_stayingHelper_11 ((hX.hS (aw_lt hX.h100 hq2)).1 0 (by decide)) (kd_0 _) rfl (hX.h_br0 (aw_lt hX.h100 hq2) hb11) ?_
      refine xa_ifnonnull_null (pc := 14) dX7_stayingHelper_14 ?_
      refine xa_aload_n (pc := 17) dX7_stayingHelper_17 rfl ?_
      refine xa_goto (pc := 18) (tgt := 22) dX7_stayingHelper_18 (by decide) ?_
      exact xa_aret (some (ci (xc n) 0)) dX7_stayingHelper_22 rfl ⟨Or.inl ⟨by simp [xm_hlp, hq2, hb11], rfl⟩, rfl, rfl⟩
    · refine xa_getA (pc := 11) 3 11 (ci (xc n) 80) lfX7_155 dX7_stayingHelper_11 ((hX.hS (aw_lt hX.h100 hq2)).1 0 (by decide)) (kd_0 _) rfl (hX.h_br1 (aw_lt hX.h100 hq2) hb11) ?_
      refine xa_ifnonnull_ref (pc := 14) 21 dX7_stayingHelper_14 (by decide) ?_
      refine xa_null (pc := 21) dX7_stayingHelper_21 ?_
      exact xa_aret none dX7_stayingHelper_22 rfl ⟨Or.inr ⟨by simp [xm_hlp, hq2, hb11], rfl⟩, rfl, rfl⟩
  · refine xa_astore_nN (pc := 5) dX7_stayingHelper_5 (by decide) ?_
    refine xa_aload_nN (pc := 6) dX7_stayingHelper_6 rfl ?_
    refine xa_ifnull_null (pc := 7) 21 dX7_stayingHelper_7 (by decide) ?_
    refine xa_null (pc := 21) dX7_stayingHelper_21 ?_
    exact xa_aret none dX7_stayingHelper_22 rfl ⟨Or.inr ⟨by simp [xm_hlp, hq2], rfl⟩, rfl, rfl⟩
theorem open_e {nh ns : Nat} {S : xa_AH} {s : Int32} (hn : nh ≤ 100) (h : xm_isH ns s = true) (hv : vp_in (S 146 (xc s)) nh) : xm_open nh ns S s = (decide (¬ S 151 (xc s) = 0) && decide (xs S (xc (S 146 (xc s))) = 2)) := by
  rw [xm_open, h, xm_up_e ((xm_isH_t hn).mpr hv)]; rfl
set_option maxHeartbeats 4000000 in
theorem cx_serviceInCare (E : xa_EV) {L : List Nat} {T : xa_AH} {R : xa_AR} {nh ns k : Nat} {pw : Nat → Nat} {S : xa_AH} (hX : RX nh ns k pw L T R S) (n : Int32) : xa_Ct E mX7_serviceInCare [.ref (ci 0 129), .int n] L T R (xa_pH (xm_open nh ns S n) (ci (xc n) 128) T R) := by
  refine xa_Ct.of [some (.ref (ci 0 129)), some (.int n), none] rfl (Nat.le_of_ble_eq_true rfl) (by simp [Value.category]) rfl ?_
  have n12 := hX.n12
  have n32 := hX.n32
  refine xa_aload_n (pc := 0) dX7_serviceInCare_0 rfl ?_
  refine xa_iload_n (pc := 1) dX7_serviceInCare_1 rfl ?_
  refine xa_callV (pc := 2) hX.c_m129 (kd_129 _) rfl lcX7_188 dX7_serviceInCare_2 (cx_serviceAt E hX _) rfl rfl (by decide) (Nat.le_of_ble_eq_true rfl) (by decide) ?_
  rintro _ _ _ ⟨⟨hq2, rfl⟩ | ⟨hq2, rfl⟩, rfl, rfl⟩
  · refine xa_astore_n (pc := 5) dX7_serviceInCare_5 (by decide) ?_
    refine xa_aload_n (pc := 6) dX7_serviceInCare_6 rfl ?_
    refine xa_ifnull_ref (pc := 7) dX7_serviceInCare_7 ?_
    refine xa_aload_n (pc := 10) dX7_serviceInCare_10 rfl ?_
    refine xa_getIv (pc := 11) 5 7 _ lfX7_59 dX7_serviceInCare_11 (hX.sM (isH_lt hX.s100 hq2)) (kd_128 _) rfl (hX.s_state (isH_lt hX.s100 hq2)) ?_
    refine xa_if_eq (pc := 14) 28 dX7_serviceInCare_14 (by decide) (fun h14 => ?_) (fun h14 => ?_)
    · refine xa_null (pc := 28) dX7_serviceInCare_28 ?_
      exact xa_aret none dX7_serviceInCare_29 rfl ⟨Or.inr ⟨by rw [open_e hX.h100 hq2 (hX.xm_wf.2.2.2.2 _ (isH_lt hX.s100 hq2))]; simp [hq2, h14], rfl⟩, rfl, rfl⟩
    · refine xa_aload_n (pc := 17) dX7_serviceInCare_17 rfl ?_
      refine xa_getA (pc := 18) 5 1 (ci (xc (S 146 (xc n))) 0) lfX7_106 dX7_serviceInCare_18 (hX.sM (isH_lt hX.s100 hq2)) (kd_128 _) rfl (hX.s_host (isH_lt hX.s100 hq2)) ?_
      refine xa_getIv (pc := 21) 3 8 _ lfX7_95 dX7_serviceInCare_21 ((hX.hS (hX.hO (isH_lt hX.s100 hq2))).1 0 (by decide)) (kd_0 _) rfl (hX.h_state (hX.hO (isH_lt hX.s100 hq2))) ?_
      refine xa_iconst (pc := 24) (v := 2) dX7_serviceInCare_24 (by decide) ?_
      refine xa_icmp_eq (pc := 25) 30 dX7_serviceInCare_25 (by decide) (fun h25 => ?_) (fun h25 => ?_)
      · refine xa_aload_n (pc := 30) dX7_serviceInCare_30 rfl ?_
        exact xa_aret (some (ci (xc n) 128)) dX7_serviceInCare_31 rfl ⟨Or.inl ⟨by rw [open_e hX.h100 hq2 (hX.xm_wf.2.2.2.2 _ (isH_lt hX.s100 hq2))]; simp [hq2, h14, h25], rfl⟩, rfl, rfl⟩
      · refine xa_null (pc := 28) dX7_serviceInCare_28 ?_
        exact xa_aret none dX7_serviceInCare_29 rfl ⟨Or.inr ⟨by rw [open_e hX.h100 hq2 (hX.xm_wf.2.2.2.2 _ (isH_lt hX.s100 hq2))]; simp [hq2, h14, h25], rfl⟩, rfl, rfl⟩
  · refine xa_astore_nN (pc := 5) dX7_serviceInCare_5 (by decide) ?_
    refine xa_aload_nN (pc := 6) dX7_serviceInCare_6 rfl ?_
    refine xa_ifnull_null (pc := 7) 28 dX7_serviceInCare_7 (by decide) ?_
    refine xa_null (pc := 28) dX7_serviceInCare_28 ?_
    exact xa_aret none dX7_serviceInCare_29 rfl ⟨Or.inr ⟨by simp [xm_open, hq2], rfl⟩, rfl, rfl⟩
def cq_nt (S : xa_AH) (h : Nat) (n : Int32) (s : Nat) : Bool := decide (xc (S 146 s) = h) && (decide (S 148 s = n) && decide (¬ S 151 s = 0))
def cq_lv (S : xa_AH) (h : Nat) (s : Nat) : Bool := decide (xc (S 146 s) = h) && decide (¬ S 151 s = 0)
def cq_hd (S : xa_AH) (h : Nat) (s : Nat) : Bool := decide (xc (S 146 s) = h)
def cq_ps (S : xa_AH) (h : Nat) (x : Nat) : Bool := decide (xs S x = 1) && decide (xc (S 141 x) = h)
set_option maxHeartbeats 4000000 in
theorem lx_isNameTaken (E : xa_EV) {L : List Nat} {T : xa_AH} {R : xa_AR} {nh ns k : Nat} {pw : Nat → Nat} {S : xa_AH} (hX : RX nh ns k pw L T R S) {h : Nat} (hh : h < nh) (n : Int32) : ∀ x, x ≤ ns → (∀ i, i < x → cq_nt S h n i = false) → xa_W E mX7_isNameTaken (xa_Z E mX7_isNameTaken L (xa_pR (.int (xa_b (xa_any (cq_nt S h n) ns))) T R)) 0 0 2 [some (.ref (ci 0 129)), some (.ref (ci h 0)), some (.int n), some (.int (nI x)), none] [] L T R := by
  have n12 := hX.n12
  have n32 := hX.n32
  refine xa_dn (fun x hx ih => ?_)
  intro hno
  refine xa_iload_n (pc := 2) dX7_isNameTaken_2 rfl ?_
  refine xa_aload_n (pc := 3) dX7_isNameTaken_3 rfl ?_
  refine xa_getIv (pc := 4) 7 3 _ lfX7_103 dX7_isNameTaken_4 hX.c_m129 (kd_129 _) rfl hX.g_ns ?_
  refine xa_icmpN_ge (pc := 7) 52 x ns dX7_isNameTaken_7 (by decide) rfl rfl (by omega) (by omega) (fun h7 => ?_) (fun h7 => ?_)
  · have g7 : ¬ (x < ns) := by omega
    refine xa_iconst (pc := 52) (v := 0) dX7_isNameTaken_52 (by decide) ?_
    exact xa_zret dX7_isNameTaken_53 rfl (by decide) ⟨xa_r0 (xa_any_no.mpr (fun i hi => hno i (by omega))), rfl, rfl⟩
  · refine xa_aload_n (pc := 10) dX7_isNameTaken_10 rfl ?_
    refine xa_getA (pc := 11) 7 1 (ci 0 127) lfX7_17 dX7_isNameTaken_11 hX.c_m129 (kd_129 _) rfl hX.c_r1 ?_
    refine xa_iload_n (pc := 14) dX7_isNameTaken_14 rfl ?_
    refine xa_aaldS (pc := 15) x (ci x 128) dX7_isNameTaken_15 hX.c_m127 rfl (by omega) (hX.sA (by omega)) ?_
    refine xa_astore (pc := 16) dX7_isNameTaken_16 (by decide) ?_
    refine xa_aload (pc := 18) dX7_isNameTaken_18 rfl ?_
    refine xa_getA (pc := 20) 5 1 (ci (xc (S 146 x)) 0) lfX7_106 dX7_isNameTaken_20 (hX.sM (by omega)) (kd_128 _) rfl (hX.s_host (by omega)) ?_
    refine xa_aload_n (pc := 23) dX7_isNameTaken_23 rfl ?_
    refine xa_acmpC_ne (pc := 24) 46 (x := (ci (xc (S 146 x)) 0)) (y := (ci h 0)) dX7_isNameTaken_24 (by decide) ((hX.hS (hX.hO (by omega))).1 0 (by decide)) ((hX.hS hh).1 0 (by decide)) (fun h24 => ?_) (fun h24 => ?_)
    · have h24 : ¬ ((xc (S 146 x)) = h) := fun q => h24 (ci_i.mpr q)
      refine xa_iinc (pc := 46) (v := nI (x + 1)) dX7_isNameTaken_46 rfl (by decide) (nI_1 _) ?_
      refine xa_goto (pc := 49) (tgt := 2) dX7_isNameTaken_49 (by decide) ?_
      exact xa_fgk (ih (by omega) (xa_no_s hno (by simp [cq_nt, h7, h24]))) (And.intro rfl (And.intro rfl (And.intro rfl (And.intro rfl trivial))))
    · have h24 := ci_i.mp h24
      refine xa_aload (pc := 27) dX7_isNameTaken_27 rfl ?_
      refine xa_getIv (pc := 29) 5 5 _ lfX7_201 dX7_isNameTaken_29 (hX.sM (by omega)) (kd_128 _) rfl (hX.s_name (by omega)) ?_
      refine xa_iload_n (pc := 32) dX7_isNameTaken_32 rfl ?_
      refine xa_icmp_ne (pc := 33) 46 dX7_isNameTaken_33 (by decide) (fun h33 => ?_) (fun h33 => ?_)
      · refine xa_iinc (pc := 46) (v := nI (x + 1)) dX7_isNameTaken_46 rfl (by decide) (nI_1 _) ?_
        refine xa_goto (pc := 49) (tgt := 2) dX7_isNameTaken_49 (by decide) ?_
        exact xa_fgk (ih (by omega) (xa_no_s hno (by simp [cq_nt, h7, h24, h33]))) (And.intro rfl (And.intro rfl (And.intro rfl (And.intro rfl trivial))))
      · refine xa_aload (pc := 36) dX7_isNameTaken_36 rfl ?_
        refine xa_getIv (pc := 38) 5 7 _ lfX7_59 dX7_isNameTaken_38 (hX.sM (by omega)) (kd_128 _) rfl (hX.s_state (by omega)) ?_
        refine xa_if_eq (pc := 41) 46 dX7_isNameTaken_41 (by decide) (fun h41 => ?_) (fun h41 => ?_)
        · refine xa_iinc (pc := 46) (v := nI (x + 1)) dX7_isNameTaken_46 rfl (by decide) (nI_1 _) ?_
          refine xa_goto (pc := 49) (tgt := 2) dX7_isNameTaken_49 (by decide) ?_
          exact xa_fgk (ih (by omega) (xa_no_s hno (by simp [cq_nt, h7, h24, h33, h41]))) (And.intro rfl (And.intro rfl (And.intro rfl (And.intro rfl trivial))))
        · refine xa_iconst (pc := 44) (v := 1) dX7_isNameTaken_44 (by decide) ?_
          exact xa_zret dX7_isNameTaken_45 rfl (by decide) ⟨xa_r1 (xa_any_yes (i := x) (by omega) (by simp [cq_nt, h7, h24, h33, h41])), rfl, rfl⟩
set_option maxHeartbeats 4000000 in
theorem cx_isNameTaken (E : xa_EV) {L : List Nat} {T : xa_AH} {R : xa_AR} {nh ns k : Nat} {pw : Nat → Nat} {S : xa_AH} (hX : RX nh ns k pw L T R S) {h : Nat} (hh : h < nh) (n : Int32) : xa_Ct E mX7_isNameTaken [.ref (ci 0 129), .ref (ci h 0), .int n] L T R (xa_pR (.int (xa_b (xa_any (cq_nt S h n) ns))) T R) := by
  refine xa_Ct.of [some (.ref (ci 0 129)), some (.ref (ci h 0)), some (.int n), none, none] rfl (Nat.le_of_ble_eq_true rfl) (by simp [Value.category]) rfl ?_
  have n12 := hX.n12
  have n32 := hX.n32
  refine xa_iconst (pc := 0) (v := 0) dX7_isNameTaken_0 (by decide) ?_
  refine xa_istore_n (pc := 1) dX7_isNameTaken_1 (by decide) ?_
  exact lx_isNameTaken E hX hh n 0 (Nat.zero_le _) (fun i hi => absurd hi (Nat.not_lt_zero i))
set_option maxHeartbeats 4000000 in
theorem lx_hasHadServices (E : xa_EV) {L : List Nat} {T : xa_AH} {R : xa_AR} {nh ns k : Nat} {pw : Nat → Nat} {S : xa_AH} (hX : RX nh ns k pw L T R S) {h : Nat} (hh : h < nh) : ∀ x, x ≤ ns → (∀ i, i < x → cq_hd S h i = false) → xa_W E mX7_hasHadServices (xa_Z E mX7_hasHadServices L (xa_pR (.int (xa_b (xa_any (cq_hd S h) ns))) T R)) 0 0 2 [some (.ref (ci 0 129)), some (.ref (ci h 0)), some (.int (nI x))] [] L T R := by
  have n12 := hX.n12
  have n32 := hX.n32
  refine xa_dn (fun x hx ih => ?_)
  intro hno
  refine xa_iload_n (pc := 2) dX7_hasHadServices_2 rfl ?_
  refine xa_aload_n (pc := 3) dX7_hasHadServices_3 rfl ?_
  refine xa_getIv (pc := 4) 7 3 _ lfX7_103 dX7_hasHadServices_4 hX.c_m129 (kd_129 _) rfl hX.g_ns ?_
  refine xa_icmpN_ge (pc := 7) 31 x ns dX7_hasHadServices_7 (by decide) rfl rfl (by omega) (by omega) (fun h7 => ?_) (fun h7 => ?_)
  · have g7 : ¬ (x < ns) := by omega
    refine xa_iconst (pc := 31) (v := 0) dX7_hasHadServices_31 (by decide) ?_
    exact xa_zret dX7_hasHadServices_32 rfl (by decide) ⟨xa_r0 (xa_any_no.mpr (fun i hi => hno i (by omega))), rfl, rfl⟩
  · refine xa_aload_n (pc := 10) dX7_hasHadServices_10 rfl ?_
    refine xa_getA (pc := 11) 7 1 (ci 0 127) lfX7_17 dX7_hasHadServices_11 hX.c_m129 (kd_129 _) rfl hX.c_r1 ?_
    refine xa_iload_n (pc := 14) dX7_hasHadServices_14 rfl ?_
    refine xa_aaldS (pc := 15) x (ci x 128) dX7_hasHadServices_15 hX.c_m127 rfl (by omega) (hX.sA (by omega)) ?_
    refine xa_getA (pc := 16) 5 1 (ci (xc (S 146 x)) 0) lfX7_106 dX7_hasHadServices_16 (hX.sM (by omega)) (kd_128 _) rfl (hX.s_host (by omega)) ?_
    refine xa_aload_n (pc := 19) dX7_hasHadServices_19 rfl ?_
    refine xa_acmpC_ne (pc := 20) 25 (x := (ci (xc (S 146 x)) 0)) (y := (ci h 0)) dX7_hasHadServices_20 (by decide) ((hX.hS (hX.hO (by omega))).1 0 (by decide)) ((hX.hS hh).1 0 (by decide)) (fun h20 => ?_) (fun h20 => ?_)
    · have h20 : ¬ ((xc (S 146 x)) = h) := fun q => h20 (ci_i.mpr q)
      refine xa_iinc (pc := 25) (v := nI (x + 1)) dX7_hasHadServices_25 rfl (by decide) (nI_1 _) ?_
      refine xa_goto (pc := 28) (tgt := 2) dX7_hasHadServices_28 (by decide) ?_
      exact xa_fgk (ih (by omega) (xa_no_s hno (by simp [cq_hd, h7, h20]))) (And.intro rfl (And.intro rfl (And.intro rfl trivial)))
    · have h20 := ci_i.mp h20
      refine xa_iconst (pc := 23) (v := 1) dX7_hasHadServices_23 (by decide) ?_
      exact xa_zret dX7_hasHadServices_24 rfl (by decide) ⟨xa_r1 (xa_any_yes (i := x) (by omega) (by simp [cq_hd, h7, h20])), rfl, rfl⟩
set_option maxHeartbeats 4000000 in
theorem cx_hasHadServices (E : xa_EV) {L : List Nat} {T : xa_AH} {R : xa_AR} {nh ns k : Nat} {pw : Nat → Nat} {S : xa_AH} (hX : RX nh ns k pw L T R S) {h : Nat} (hh : h < nh) : xa_Ct E mX7_hasHadServices [.ref (ci 0 129), .ref (ci h 0)] L T R (xa_pR (.int (xa_b (xa_any (cq_hd S h) ns))) T R) := by
  refine xa_Ct.of [some (.ref (ci 0 129)), some (.ref (ci h 0)), none] rfl (Nat.le_of_ble_eq_true rfl) (by simp [Value.category]) rfl ?_
  have n12 := hX.n12
  have n32 := hX.n32
  refine xa_iconst (pc := 0) (v := 0) dX7_hasHadServices_0 (by decide) ?_
  refine xa_istore_n (pc := 1) dX7_hasHadServices_1 (by decide) ?_
  exact lx_hasHadServices E hX hh 0 (Nat.zero_le _) (fun i hi => absurd hi (Nat.not_lt_zero i))
set_option maxHeartbeats 4000000 in
theorem lx_isProxyOfASleeper (E : xa_EV) {L : List Nat} {T : xa_AH} {R : xa_AR} {nh ns k : Nat} {pw : Nat → Nat} {S : xa_AH} (hX : RX nh ns k pw L T R S) {h : Nat} (hh : h < nh) : ∀ x, x ≤ nh → (∀ i, i < x → cq_ps S h i = false) → xa_W E mX7_isProxyOfASleeper (xa_Z E mX7_isProxyOfASleeper L (xa_pR (.int (xa_b (xa_any (cq_ps S h) nh))) T R)) 0 0 2 [some (.ref (ci 0 129)), some (.ref (ci h 0)), some (.int (nI x))] [] L T R := by
  have n12 := hX.n12
  have n32 := hX.n32
  refine xa_dn (fun x hx ih => ?_)
  intro hno
  refine xa_iload_n (pc := 2) dX7_isProxyOfASleeper_2 rfl ?_
  refine xa_aload_n (pc := 3) dX7_isProxyOfASleeper_3 rfl ?_
  refine xa_getIv (pc := 4) 7 2 _ lfX7_25 dX7_isProxyOfASleeper_4 hX.c_m129 (kd_129 _) rfl hX.g_nh ?_
  refine xa_icmpN_ge (pc := 7) 44 x nh dX7_isProxyOfASleeper_7 (by decide) rfl rfl (by omega) (by omega) (fun h7 => ?_) (fun h7 => ?_)
  · have g7 : ¬ (x < nh) := by omega
    refine xa_iconst (pc := 44) (v := 0) dX7_isProxyOfASleeper_44 (by decide) ?_
    exact xa_zret dX7_isProxyOfASleeper_45 rfl (by decide) ⟨xa_r0 (xa_any_no.mpr (fun i hi => hno i (by omega))), rfl, rfl⟩
  · refine xa_aload_n (pc := 10) dX7_isProxyOfASleeper_10 rfl ?_
    refine xa_getA (pc := 11) 7 0 (ci 0 126) lfX7_11 dX7_isProxyOfASleeper_11 hX.c_m129 (kd_129 _) rfl hX.c_r0 ?_
    refine xa_iload_n (pc := 14) dX7_isProxyOfASleeper_14 rfl ?_
    refine xa_aaldH (pc := 15) x (ci x 0) dX7_isProxyOfASleeper_15 hX.c_m126 rfl (by omega) (hX.hA (by omega)) ?_
    refine xa_getIv (pc := 16) 3 8 _ lfX7_95 dX7_isProxyOfASleeper_16 ((hX.hS (by omega)).1 0 (by decide)) (kd_0 _) rfl (hX.h_state (by omega)) ?_
    refine xa_iconst (pc := 19) (v := 1) dX7_isProxyOfASleeper_19 (by decide) ?_
    refine xa_icmp_ne (pc := 20) 38 dX7_isProxyOfASleeper_20 (by decide) (fun h20 => ?_) (fun h20 => ?_)
    · refine xa_iinc (pc := 38) (v := nI (x + 1)) dX7_isProxyOfASleeper_38 rfl (by decide) (nI_1 _) ?_
      refine xa_goto (pc := 41) (tgt := 2) dX7_isProxyOfASleeper_41 (by decide) ?_
      exact xa_fgk (ih (by omega) (xa_no_s hno (by simp [cq_ps, h7, h20]))) (And.intro rfl (And.intro rfl (And.intro rfl trivial)))
    · refine xa_aload_n (pc := 23) dX7_isProxyOfASleeper_23 rfl ?_
      refine xa_getA (pc := 24) 7 0 (ci 0 126) lfX7_11 dX7_isProxyOfASleeper_24 hX.c_m129 (kd_129 _) rfl hX.c_r0 ?_
      refine xa_iload_n (pc := 27) dX7_isProxyOfASleeper_27 rfl ?_
      refine xa_aaldH (pc := 28) x (ci x 0) dX7_isProxyOfASleeper_28 hX.c_m126 rfl (by omega) (hX.hA (by omega)) ?_
      refine xa_getA (pc := 29) 3 10 (ci (xc (S 141 x)) 0) lfX7_96 dX7_isProxyOfASleeper_29 ((hX.hS (by omega)).1 0 (by decide)) (kd_0 _) rfl (hX.h_px1 (by omega) (xs1.mp h20).1) ?_
      refine xa_aload_n (pc := 32) dX7_isProxyOfASleeper_32 rfl ?_
      refine xa_acmpC_ne (pc := 33) 38 (x := (ci (xc (S 141 x)) 0)) (y := (ci h 0)) dX7_isProxyOfASleeper_33 (by decide) ((hX.hS (hX.pxl (by omega) (xs1.mp h20).1)).1 0 (by decide)) ((hX.hS hh).1 0 (by decide)) (fun h33 => ?_) (fun h33 => ?_)
      · have h33 : ¬ ((xc (S 141 x)) = h) := fun q => h33 (ci_i.mpr q)
        refine xa_iinc (pc := 38) (v := nI (x + 1)) dX7_isProxyOfASleeper_38 rfl (by decide) (nI_1 _) ?_
        refine xa_goto (pc := 41) (tgt := 2) dX7_isProxyOfASleeper_41 (by decide) ?_
        exact xa_fgk (ih (by omega) (xa_no_s hno (by simp [cq_ps, h7, h20, h33]))) (And.intro rfl (And.intro rfl (And.intro rfl trivial)))
      · have h33 := ci_i.mp h33
        refine xa_iconst (pc := 36) (v := 1) dX7_isProxyOfASleeper_36 (by decide) ?_
        exact xa_zret dX7_isProxyOfASleeper_37 rfl (by decide) ⟨xa_r1 (xa_any_yes (i := x) (by omega) (by simp [cq_ps, h7, h20, h33])), rfl, rfl⟩
set_option maxHeartbeats 4000000 in
theorem cx_isProxyOfASleeper (E : xa_EV) {L : List Nat} {T : xa_AH} {R : xa_AR} {nh ns k : Nat} {pw : Nat → Nat} {S : xa_AH} (hX : RX nh ns k pw L T R S) {h : Nat} (hh : h < nh) : xa_Ct E mX7_isProxyOfASleeper [.ref (ci 0 129), .ref (ci h 0)] L T R (xa_pR (.int (xa_b (xa_any (cq_ps S h) nh))) T R) := by
  refine xa_Ct.of [some (.ref (ci 0 129)), some (.ref (ci h 0)), none] rfl (Nat.le_of_ble_eq_true rfl) (by simp [Value.category]) rfl ?_
  have n12 := hX.n12
  have n32 := hX.n32
  refine xa_iconst (pc := 0) (v := 0) dX7_isProxyOfASleeper_0 (by decide) ?_
  refine xa_istore_n (pc := 1) dX7_isProxyOfASleeper_1 (by decide) ?_
  exact lx_isProxyOfASleeper E hX hh 0 (Nat.zero_le _) (fun i hi => absurd hi (Nat.not_lt_zero i))
theorem cq_cy {p : Nat → Bool} {s : Nat} (h : p s = true) : some (Value.int (nI (xa_ct p s + 1))) = some (Value.int (nI (xa_ct p (s + 1)))) := by rw [xa_ct, if_pos h]
theorem cq_cn {p : Nat → Bool} {s : Nat} (h : p s = false) : some (Value.int (nI (xa_ct p s))) = some (Value.int (nI (xa_ct p (s + 1)))) := by rw [xa_ct, h]; simp
set_option maxHeartbeats 4000000 in
theorem lx_live (E : xa_EV) {L : List Nat} {T : xa_AH} {R : xa_AR} {nh ns k : Nat} {pw : Nat → Nat} {S : xa_AH} (hX : RX nh ns k pw L T R S) {h : Nat} (hh : h < nh) : ∀ x, x ≤ ns → xa_W E mX7_liveServicesOf (xa_Z E mX7_liveServicesOf L (xa_pR (.int (nI (xa_ct (cq_lv S h) ns))) T R)) 0 0 4 [some (.ref (ci 0 129)), some (.ref (ci h 0)), some (.int (nI (xa_ct (cq_lv S h) x))), some (.int (nI x))] [] L T R := by
  have n12 := hX.n12
  have n32 := hX.n32
  refine xa_dn (fun x hx ih => ?_)
  refine xa_iload_n (pc := 4) dX7_liveServicesOf_4 rfl ?_
  refine xa_aload_n (pc := 5) dX7_liveServicesOf_5 rfl ?_
  refine xa_getIv (pc := 6) 7 3 _ lfX7_103 dX7_liveServicesOf_6 hX.c_m129 (kd_129 _) rfl hX.g_ns ?_
  refine xa_icmpN_ge (pc := 9) 46 x ns dX7_liveServicesOf_9 (by decide) rfl rfl (by omega) (by omega) (fun h9 => ?_) (fun h9 => ?_)
  · have g9 : ¬ (x < ns) := by omega
    refine xa_iload_n (pc := 46) dX7_liveServicesOf_46 rfl ?_
    have ex : x = ns := by omega
    subst ex
    exact xa_zret dX7_liveServicesOf_47 rfl rfl ⟨rfl, rfl, rfl⟩
  · refine xa_aload_n (pc := 12) dX7_liveServicesOf_12 rfl ?_
    refine xa_getA (pc := 13) 7 1 (ci 0 127) lfX7_17 dX7_liveServicesOf_13 hX.c_m129 (kd_129 _) rfl hX.c_r1 ?_
    refine xa_iload_n (pc := 16) dX7_liveServicesOf_16 rfl ?_
    refine xa_aaldS (pc := 17) x (ci x 128) dX7_liveServicesOf_17 hX.c_m127 rfl (by omega) (hX.sA (by omega)) ?_
    refine xa_getA (pc := 18) 5 1 (ci (xc (S 146 x)) 0) lfX7_106 dX7_liveServicesOf_18 (hX.sM (by omega)) (kd_128 _) rfl (hX.s_host (by omega)) ?_
    refine xa_aload_n (pc := 21) dX7_liveServicesOf_21 rfl ?_
    refine xa_acmpC_ne (pc := 22) 40 (x := (ci (xc (S 146 x)) 0)) (y := (ci h 0)) dX7_liveServicesOf_22 (by decide) ((hX.hS (hX.hO (by omega))).1 0 (by decide)) ((hX.hS hh).1 0 (by decide)) (fun h22 => ?_) (fun h22 => ?_)
    · have h22 : ¬ ((xc (S 146 x)) = h) := fun q => h22 (ci_i.mpr q)
      refine xa_iinc (pc := 40) (v := nI (x + 1)) dX7_liveServicesOf_40 rfl (by decide) (nI_1 _) ?_
      refine xa_goto (pc := 43) (tgt := 4) dX7_liveServicesOf_43 (by decide) ?_
      exact xa_fgk (ih (by omega)) (And.intro rfl (And.intro rfl (And.intro (cq_cn (p := cq_lv S h) (by simp [cq_lv, h9, h22])) (And.intro rfl trivial))))
    · have h22 := ci_i.mp h22
      refine xa_aload_n (pc := 25) dX7_liveServicesOf_25 rfl ?_
      refine xa_getA (pc := 26) 7 1 (ci 0 127) lfX7_17 dX7_liveServicesOf_26 hX.c_m129 (kd_129 _) rfl hX.c_r1 ?_
      refine xa_iload_n (pc := 29) dX7_liveServicesOf_29 rfl ?_
      refine xa_aaldS (pc := 30) x (ci x 128) dX7_liveServicesOf_30 hX.c_m127 rfl (by omega) (hX.sA (by omega)) ?_
      refine xa_getIv (pc := 31) 5 7 _ lfX7_59 dX7_liveServicesOf_31 (hX.sM (by omega)) (kd_128 _) rfl (hX.s_state (by omega)) ?_
      refine xa_if_eq (pc := 34) 40 dX7_liveServicesOf_34 (by decide) (fun h34 => ?_) (fun h34 => ?_)
      · refine xa_iinc (pc := 40) (v := nI (x + 1)) dX7_liveServicesOf_40 rfl (by decide) (nI_1 _) ?_
        refine xa_goto (pc := 43) (tgt := 4) dX7_liveServicesOf_43 (by decide) ?_
        exact xa_fgk (ih (by omega)) (And.intro rfl (And.intro rfl (And.intro (cq_cn (p := cq_lv S h) (by simp [cq_lv, h9, h22, h34])) (And.intro rfl trivial))))
      · refine xa_iinc (pc := 37) (v := nI ((xa_ct (cq_lv S h) x) + 1)) dX7_liveServicesOf_37 rfl (by decide) (nI_1 _) ?_
        refine xa_iinc (pc := 40) (v := nI (x + 1)) dX7_liveServicesOf_40 rfl (by decide) (nI_1 _) ?_
        refine xa_goto (pc := 43) (tgt := 4) dX7_liveServicesOf_43 (by decide) ?_
        exact xa_fgk (ih (by omega)) (And.intro rfl (And.intro rfl (And.intro (cq_cy (p := cq_lv S h) (by simp [cq_lv, h9, h22, h34])) (And.intro rfl trivial))))
set_option maxHeartbeats 4000000 in
theorem cx_live (E : xa_EV) {L : List Nat} {T : xa_AH} {R : xa_AR} {nh ns k : Nat} {pw : Nat → Nat} {S : xa_AH} (hX : RX nh ns k pw L T R S) {h : Nat} (hh : h < nh) : xa_Ct E mX7_liveServicesOf [.ref (ci 0 129), .ref (ci h 0)] L T R (xa_pR (.int (nI (xa_ct (cq_lv S h) ns))) T R) := by
  refine xa_Ct.of [some (.ref (ci 0 129)), some (.ref (ci h 0)), none, none] rfl (Nat.le_of_ble_eq_true rfl) (by simp [Value.category]) rfl ?_
  have n12 := hX.n12
  have n32 := hX.n32
  refine xa_iconst (pc := 0) (v := 0) dX7_liveServicesOf_0 (by decide) ?_
  refine xa_istore_n (pc := 1) dX7_liveServicesOf_1 (by decide) ?_
  refine xa_iconst (pc := 2) (v := 0) dX7_liveServicesOf_2 (by decide) ?_
  refine xa_istore_n (pc := 3) dX7_liveServicesOf_3 (by decide) ?_
  exact lx_live E hX hh 0 (Nat.zero_le _)
