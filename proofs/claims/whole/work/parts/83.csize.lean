theorem ct_tail {p : Nat → Bool} {n : Nat} : ∀ {m : Nat}, n ≤ m → (∀ i, n ≤ i → i < m → p i = false) → xa_ct p m = xa_ct p n
  | 0, h, _ => by have e : n = 0 := by omega
                  rw [e]
  | m + 1, h, hp => by
    by_cases e : n = m + 1
    · rw [e]
    · rw [xa_ct, ct_tail (m := m) (by omega) (fun i h1 h2 => hp i h1 (by omega)), hp m (by omega) (by omega)]; rfl
theorem sz_r {nh ns k : Nat} {pw : Nat → Nat} {L : List Nat} {T : xa_AH} {R : xa_AR} {S : xa_AH} (hX : RX nh ns k pw L T R S) {h : Nat} (hh : h < nh) : xa_ct (bt (T (ci h 1) 4)) 32 = xa_ct (lk_r S h) ns := by
  rw [xa_ct_cong (q := lk_r S h) (fun i hi => hX.r_held hh hi)]
  refine ct_tail hX.n32 (fun i h1 h2 => ?_)
  cases c : lk_r S h i
  · rfl
  · have z := (hX.ir_lt hh h2 (by simpa [lk_r] using c)).1; omega
theorem sz_n {nh ns k : Nat} {pw : Nat → Nat} {L : List Nat} {T : xa_AH} {R : xa_AR} {S : xa_AH} (hX : RX nh ns k pw L T R S) {h : Nat} (hh : h < nh) : xa_ct (bt (T (ci h 9) 1)) 32 = xa_ct (lk_n S h) ns := by
  rw [xa_ct_cong (q := lk_n S h) (fun i hi => hX.r_ans hh hi)]
  refine ct_tail hX.n32 (fun i h1 h2 => ?_)
  cases c : lk_n S h i
  · rfl
  · have z := (hX.ir_ans hh h2 (by simpa [lk_n] using c)).1; omega
theorem sz_a {nh ns k : Nat} {pw : Nat → Nat} {L : List Nat} {T : xa_AH} {R : xa_AR} {S : xa_AH} (hX : RX nh ns k pw L T R S) {h : Nat} (hh : h < nh) : xa_ct (bt (T (ci h 6) 2)) 32 = xa_ct (lk_a S h) 16 := by
  rw [ct_tail (n := 16) (by decide) (fun i h1 h2 => hX.b_big h hh i h1)]
  exact xa_ct_cong (fun i hi => hX.a_has hh hi)
set_option maxHeartbeats 4000000 in
theorem cx_s6 (E : xa_EV) {L : List Nat} {T : xa_AH} {R : xa_AR} {nh ns k : Nat} {pw : Nat → Nat} {S : xa_AH} (hX : RX nh ns k pw L T R S) {h : Nat} (hh : h < nh) : xa_Ct E mX6_size [.ref (ci h 1)] L T R (xa_pR (.int (nI (xa_ct (lk_r S h) ns))) T R) := by
  refine xa_Ct.of [some (.ref (ci h 1))] rfl (Nat.le_of_ble_eq_true rfl) (by simp [Value.category]) rfl ?_
  refine xa_aload_n (pc := 0) dX6_size_0 rfl ?_
  refine xa_getI (pc := 1) 6 4 lfX6_24 dX6_size_1 ((hX.hS hh).1 1 (by decide)) (kd_1 _) rfl ?_
  refine xa_callS (pc := 4) lcX6_32 dX6_size_4 (cx_bitCount E _) rfl rfl (by decide) (Nat.le_of_ble_eq_true rfl) (by decide) ?_
  rintro _ _ _ ⟨rfl, rfl, rfl⟩
  exact xa_zret dX6_size_7 rfl rfl ⟨congrArg (fun z => some (Value.int (nI z))) (sz_r hX hh).symm, rfl, rfl⟩
set_option maxHeartbeats 4000000 in
theorem cx_s1 (E : xa_EV) {L : List Nat} {T : xa_AH} {R : xa_AR} {nh ns k : Nat} {pw : Nat → Nat} {S : xa_AH} (hX : RX nh ns k pw L T R S) {h : Nat} (hh : h < nh) : xa_Ct E mX1_size [.ref (ci h 6)] L T R (xa_pR (.int (nI (xa_ct (lk_a S h) 16))) T R) := by
  refine xa_Ct.of [some (.ref (ci h 6))] rfl (Nat.le_of_ble_eq_true rfl) (by simp [Value.category]) rfl ?_
  refine xa_aload_n (pc := 0) dX1_size_0 rfl ?_
  refine xa_getI (pc := 1) 1 2 lfX1_18 dX1_size_1 ((hX.hS hh).1 6 (by decide)) (kd_6 _) rfl ?_
  refine xa_callS (pc := 4) lcX1_30 dX1_size_4 (cx_bitCount E _) rfl rfl (by decide) (Nat.le_of_ble_eq_true rfl) (by decide) ?_
  rintro _ _ _ ⟨rfl, rfl, rfl⟩
  exact xa_zret dX1_size_7 rfl rfl ⟨congrArg (fun z => some (Value.int (nI z))) (sz_a hX hh).symm, rfl, rfl⟩
set_option maxHeartbeats 4000000 in
theorem cx_s0 (E : xa_EV) {L : List Nat} {T : xa_AH} {R : xa_AR} {nh ns k : Nat} {pw : Nat → Nat} {S : xa_AH} (hX : RX nh ns k pw L T R S) {h : Nat} (hh : h < nh) : xa_Ct E mX0_size [.ref (ci h 9)] L T R (xa_pR (.int (nI (xa_ct (lk_n S h) ns))) T R) := by
  refine xa_Ct.of [some (.ref (ci h 9))] rfl (Nat.le_of_ble_eq_true rfl) (by simp [Value.category]) rfl ?_
  refine xa_aload_n (pc := 0) dX0_size_0 rfl ?_
  refine xa_getI (pc := 1) 0 1 lfX0_15 dX0_size_1 ((hX.hS hh).1 9 (by decide)) (kd_9 _) rfl ?_
  refine xa_callS (pc := 4) lcX0_23 dX0_size_4 (cx_bitCount E _) rfl rfl (by decide) (Nat.le_of_ble_eq_true rfl) (by decide) ?_
  rintro _ _ _ ⟨rfl, rfl, rfl⟩
  exact xa_zret dX0_size_7 rfl rfl ⟨congrArg (fun z => some (Value.int (nI z))) (sz_n hX hh).symm, rfl, rfl⟩
theorem pa_e {nh ns k : Nat} {pw : Nat → Nat} {L : List Nat} {T : xa_AH} {R : xa_AR} {S : xa_AH} (hX : RX nh ns k pw L T R S) {h : Nat} (hh : h < nh) : cq_pa S h = true ↔ S 136 h = 1 ∧ S 136 (xc (S 141 h)) = 2 := by
  unfold cq_pa xs
  simp only [Bool.and_eq_true, decide_eq_true_eq]
  constructor
  · intro g
    have e : S 136 h = 1 := by
      by_cases c : S 137 h = 0
      · simpa [c] using g.1
      · have := g.1; rw [if_neg c] at this; exact absurd this (by decide)
    refine ⟨e, ?_⟩
    have z := (hX.ih_px hh e).2.1
    have y := g.2
    rwa [if_pos z] at y
  · intro g
    have z := (hX.ih_px hh g.1).2.1
    have c : S 137 h = 0 := by
      rcases hX.ih_lv hh with c | c
      · exact c
      · rw [g.1] at c; exact absurd c.2 (by decide)
    rw [if_pos c, if_pos z]; exact g
theorem xs_aw {nh ns k : Nat} {pw : Nat → Nat} {L : List Nat} {T : xa_AH} {R : xa_AR} {S : xa_AH} (hX : RX nh ns k pw L T R S) {h : Nat} (hh : h < nh) : S 136 h = 2 ↔ (xs S h = 2 ∨ xs S h = 3) := by
  unfold xs
  by_cases c : S 137 h = 0
  · rw [if_pos c]
    constructor
    · intro g; exact Or.inl g
    · rintro (g | g)
      · exact g
      · rcases hX.ih_how hh with e | e | e <;> (rw [e] at g; exact absurd g (by decide))
  · rw [if_neg c]
    constructor
    · intro _; exact Or.inr rfl
    · intro _
      rcases hX.ih_lv hh with e | e
      · exact absurd e c
      · exact e.2
theorem lk_no {a b c : Int32} (h : ¬ (a = 1 ∧ b = 2)) : (if a = 1 then (if b = 2 then c else -1) else -1) = (-1 : Int32) := by
  split
  · next e => rw [if_neg (fun c => h ⟨e, c⟩)]
  · rfl
set_option maxHeartbeats 4000000 in
theorem cx_record (E : xa_EV) {L : List Nat} {T : xa_AH} {R : xa_AR} {nh ns k : Nat} {pw : Nat → Nat} {S : xa_AH} (hX : RX nh ns k pw L T R S) (h s n : Int32) : xa_Ct E mX7_record [.ref (ci 0 129), .int h, .int s, .int n] L T R (xa_pR (.int (xm_record nh ns S h s n)) T R) := by
  refine xa_Ct.of [some (.ref (ci 0 129)), some (.int h), some (.int s), some (.int n), none] rfl (Nat.le_of_ble_eq_true rfl) (by simp [Value.category]) rfl ?_
  have n12 := hX.n12
  have n32 := hX.n32
  refine xa_aload_n (pc := 0) dX7_record_0 rfl ?_
  refine xa_iload_n (pc := 1) dX7_record_1 rfl ?_
  refine xa_callV (pc := 2) hX.c_m129 (kd_129 _) rfl lcX7_100 dX7_record_2 (cx_hostAt E hX _) rfl rfl (by decide) (Nat.le_of_ble_eq_true rfl) (by decide) ?_
  rintro _ _ _ ⟨⟨hq2, rfl⟩ | ⟨hq2, rfl⟩, rfl, rfl⟩
  · refine xa_astore (pc := 5) dX7_record_5 (by decide) ?_
    refine xa_aload (pc := 7) dX7_record_7 rfl ?_
    refine xa_ifnull_ref (pc := 9) dX7_record_9 ?_
    refine xa_aload_n (pc := 12) dX7_record_12 rfl ?_
    refine xa_iload_n (pc := 13) dX7_record_13 rfl ?_
    refine xa_callV (pc := 14) hX.c_m129 (kd_129 _) rfl lcX7_188 dX7_record_14 (cx_serviceAt E hX _) rfl rfl (by decide) (Nat.le_of_ble_eq_true rfl) (by decide) ?_
    rintro _ _ _ ⟨⟨hq14, rfl⟩ | ⟨hq14, rfl⟩, rfl, rfl⟩
    · refine xa_ifnull_ref (pc := 17) dX7_record_17 ?_
      have hv2 := (xm_isH_t hX.s100).mp hq14
      have hb2 : xc s < ns := xa_in_lt hv2
      refine xa_aload (pc := 20) dX7_record_20 rfl ?_
      refine xa_getA (pc := 22) 3 4 (ci (xc h) 1) lfX7_134 dX7_record_22 ((hX.hS (isH_lt hX.h100 hq2)).1 0 (by decide)) (kd_0 _) rfl ((hX.hS (isH_lt hX.h100 hq2)).2 (0, 4, 1) (by decide)) ?_
      refine xa_iload_n (pc := 25) dX7_record_25 rfl ?_
      refine xa_callV (pc := 26) ((hX.hS (isH_lt hX.h100 hq2)).1 1 (by decide)) (kd_1 _) rfl lcX7_191 dX7_record_26 (rq_has E hX (isH_lt hX.h100 hq2) (s := (xc s)) (xa_in_eq hv2) (by omega)) rfl rfl (by decide) (Nat.le_of_ble_eq_true rfl) (by decide) ?_
      rintro _ _ _ ⟨rfl, rfl, rfl⟩
      refine xa_if_ne (pc := 29) 34 dX7_record_29 (by decide) (fun h29 => ?_) (fun h29 => ?_)
      · have h29 := xa_b_n0.mp h29
        refine xa_iload_n (pc := 34) dX7_record_34 rfl ?_
        by_cases s35_0 : n = 0
        · refine xa_tableIn (pc := 35) (x := n) 64 dX7_record_35 (by rw [s35_0]; decide) (by rw [s35_0]; decide) (by rw [s35_0]; rfl) (by decide) ?_
          refine xa_aload (pc := 64) dX7_record_64 rfl ?_
          refine xa_getA (pc := 66) 3 4 (ci (xc h) 1) lfX7_134 dX7_record_66 ((hX.hS (isH_lt hX.h100 hq2)).1 0 (by decide)) (kd_0 _) rfl ((hX.hS (isH_lt hX.h100 hq2)).2 (0, 4, 1) (by decide)) ?_
          refine xa_getA (pc := 69) 6 0 (ci (xc h) 2) lfX7_184 dX7_record_69 ((hX.hS (isH_lt hX.h100 hq2)).1 1 (by decide)) (kd_1 _) rfl ((hX.hS (isH_lt hX.h100 hq2)).2 (1, 0, 2) (by decide)) ?_
          refine xa_iload_n (pc := 72) dX7_record_72 rfl ?_
          refine xa_ialdC (pc := 73) (xc s) _ dX7_record_73 ((hX.hS (isH_lt hX.h100 hq2)).1 2 (by decide)) (kd_2 _) (ln_2 _) (xa_in_eq hv2) (by omega) (by decide) (hX.r_name (isH_lt hX.h100 hq2) (by omega)) ?_
          rw [show xm_record nh ns S h s n = _ by unfold xm_record; rw [if_pos (show (xm_isH nh h && (xm_isH ns s && decide (¬ S 158 (32 * xc h + xc s) = 0))) = true by simp [hq2, hq14, of_decide_eq_true h29]), if_pos s35_0]]
          exact xa_zret dX7_record_74 rfl rfl ⟨rfl, rfl, rfl⟩
        by_cases s35_1 : n = 1
        · refine xa_tableIn (pc := 35) (x := n) 75 dX7_record_35 (by rw [s35_1]; decide) (by rw [s35_1]; decide) (by rw [s35_1]; rfl) (by decide) ?_
          refine xa_aload (pc := 75) dX7_record_75 rfl ?_
          refine xa_getA (pc := 77) 3 4 (ci (xc h) 1) lfX7_134 dX7_record_77 ((hX.hS (isH_lt hX.h100 hq2)).1 0 (by decide)) (kd_0 _) rfl ((hX.hS (isH_lt hX.h100 hq2)).2 (0, 4, 1) (by decide)) ?_
          refine xa_getA (pc := 80) 6 1 (ci (xc h) 3) lfX7_192 dX7_record_80 ((hX.hS (isH_lt hX.h100 hq2)).1 1 (by decide)) (kd_1 _) rfl ((hX.hS (isH_lt hX.h100 hq2)).2 (1, 1, 3) (by decide)) ?_
          refine xa_iload_n (pc := 83) dX7_record_83 rfl ?_
          refine xa_ialdC (pc := 84) (xc s) _ dX7_record_84 ((hX.hS (isH_lt hX.h100 hq2)).1 3 (by decide)) (kd_3 _) (ln_3 _) (xa_in_eq hv2) (by omega) (by decide) (hX.r_marks (isH_lt hX.h100 hq2) (by omega)) ?_
          rw [show xm_record nh ns S h s n = _ by unfold xm_record; rw [if_pos (show (xm_isH nh h && (xm_isH ns s && decide (¬ S 158 (32 * xc h + xc s) = 0))) = true by simp [hq2, hq14, of_decide_eq_true h29]), if_neg s35_0, if_pos s35_1]]
          exact xa_zret dX7_record_85 rfl rfl ⟨rfl, rfl, rfl⟩
        by_cases s35_2 : n = 2
        · refine xa_tableIn (pc := 35) (x := n) 86 dX7_record_35 (by rw [s35_2]; decide) (by rw [s35_2]; decide) (by rw [s35_2]; rfl) (by decide) ?_
          refine xa_aload (pc := 86) dX7_record_86 rfl ?_
          refine xa_getA (pc := 88) 3 4 (ci (xc h) 1) lfX7_134 dX7_record_88 ((hX.hS (isH_lt hX.h100 hq2)).1 0 (by decide)) (kd_0 _) rfl ((hX.hS (isH_lt hX.h100 hq2)).2 (0, 4, 1) (by decide)) ?_
          refine xa_iload_n (pc := 91) dX7_record_91 rfl ?_
          refine xa_aload_n (pc := 92) dX7_record_92 rfl ?_
          refine xa_getIv (pc := 93) 7 4 _ lfX7_62 dX7_record_93 hX.c_m129 (kd_129 _) rfl hX.g_now ?_
          refine xa_callV (pc := 96) ((hX.hS (isH_lt hX.h100 hq2)).1 1 (by decide)) (kd_1 _) rfl lcX7_194 dX7_record_96 (rq_left E hX (isH_lt hX.h100 hq2) (s := (xc s)) (xa_in_eq hv2) (by omega) _) rfl rfl (by decide) (Nat.le_of_ble_eq_true rfl) (by decide) ?_
          rintro _ _ _ ⟨rfl, rfl, rfl⟩
          rw [show xm_record nh ns S h s n = _ by unfold xm_record; rw [if_pos (show (xm_isH nh h && (xm_isH ns s && decide (¬ S 158 (32 * xc h + xc s) = 0))) = true by simp [hq2, hq14, of_decide_eq_true h29]), if_neg s35_0, if_neg s35_1, if_pos s35_2]]
          exact xa_zret dX7_record_99 rfl rfl ⟨rfl, rfl, rfl⟩
        by_cases s35_3 : n = 3
        · refine xa_tableIn (pc := 35) (x := n) 100 dX7_record_35 (by rw [s35_3]; decide) (by rw [s35_3]; decide) (by rw [s35_3]; rfl) (by decide) ?_
          refine xa_aload (pc := 100) dX7_record_100 rfl ?_
          refine xa_getA (pc := 102) 3 4 (ci (xc h) 1) lfX7_134 dX7_record_102 ((hX.hS (isH_lt hX.h100 hq2)).1 0 (by decide)) (kd_0 _) rfl ((hX.hS (isH_lt hX.h100 hq2)).2 (0, 4, 1) (by decide)) ?_
          refine xa_getA (pc := 105) 6 2 (ci (xc h) 4) lfX7_198 dX7_record_105 ((hX.hS (isH_lt hX.h100 hq2)).1 1 (by decide)) (kd_1 _) rfl ((hX.hS (isH_lt hX.h100 hq2)).2 (1, 2, 4) (by decide)) ?_
          refine xa_iload_n (pc := 108) dX7_record_108 rfl ?_
          refine xa_ialdC (pc := 109) (xc s) _ dX7_record_109 ((hX.hS (isH_lt hX.h100 hq2)).1 4 (by decide)) (kd_4 _) (ln_4 _) (xa_in_eq hv2) (by omega) (by decide) (hX.r_life (isH_lt hX.h100 hq2) (by omega)) ?_
          rw [show xm_record nh ns S h s n = _ by unfold xm_record; rw [if_pos (show (xm_isH nh h && (xm_isH ns s && decide (¬ S 158 (32 * xc h + xc s) = 0))) = true by simp [hq2, hq14, of_decide_eq_true h29]), if_neg s35_0, if_neg s35_1, if_neg s35_2, if_pos s35_3]]
          exact xa_zret dX7_record_110 rfl rfl ⟨rfl, rfl, rfl⟩
        refine xa_tableOut (pc := 35) (x := n) 111 dX7_record_35 (by have q0 : n.toInt ≠ 0 := (fun e => s35_0 (Int32.toInt_inj.mp e)); have q1 : n.toInt ≠ 1 := (fun e => s35_1 (Int32.toInt_inj.mp e)); have q2 : n.toInt ≠ 2 := (fun e => s35_2 (Int32.toInt_inj.mp e)); have q3 : n.toInt ≠ 3 := (fun e => s35_3 (Int32.toInt_inj.mp e)); omega) (by decide) ?_
        refine xa_iconst (pc := 111) (v := (-1)) dX7_record_111 (by decide) ?_
        rw [show xm_record nh ns S h s n = _ by unfold xm_record; rw [if_pos (show (xm_isH nh h && (xm_isH ns s && decide (¬ S 158 (32 * xc h + xc s) = 0))) = true by simp [hq2, hq14, of_decide_eq_true h29]), if_neg s35_0, if_neg s35_1, if_neg s35_2, if_neg s35_3]]
        exact xa_zret dX7_record_112 rfl rfl ⟨rfl, rfl, rfl⟩
      · have h29 := xa_b_0.mp h29
        refine xa_iconst (pc := 32) (v := (-1)) dX7_record_32 (by decide) ?_
        rw [show xm_record nh ns S h s n = _ from if_neg (by simp [hq2, hq14, h29])]
        exact xa_zret dX7_record_33 rfl rfl ⟨rfl, rfl, rfl⟩
    · refine xa_ifnull_null (pc := 17) 32 dX7_record_17 (by decide) ?_
      refine xa_iconst (pc := 32) (v := (-1)) dX7_record_32 (by decide) ?_
      rw [show xm_record nh ns S h s n = _ from if_neg (by simp [hq2, hq14])]
      exact xa_zret dX7_record_33 rfl rfl ⟨rfl, rfl, rfl⟩
  · refine xa_astoreN (pc := 5) dX7_record_5 (by decide) ?_
    refine xa_aloadN (pc := 7) dX7_record_7 rfl ?_
    refine xa_ifnull_null (pc := 9) 32 dX7_record_9 (by decide) ?_
    refine xa_iconst (pc := 32) (v := (-1)) dX7_record_32 (by decide) ?_
    rw [show xm_record nh ns S h s n = _ from if_neg (by simp [hq2])]
    exact xa_zret dX7_record_33 rfl rfl ⟨rfl, rfl, rfl⟩
set_option maxHeartbeats 4000000 in
theorem cx_look (E : xa_EV) {L : List Nat} {T : xa_AH} {R : xa_AR} {nh ns k : Nat} {pw : Nat → Nat} {S : xa_AH} (hX : RX nh ns k pw L T R S) (v n : Int32) : xa_Ct E mX7_look [.ref (ci 0 129), .int v, .int n] L T R (xa_pR (.int (xm_look nh ns S v n)) T R) := by
  refine xa_Ct.of [some (.ref (ci 0 129)), some (.int v), some (.int n), none] rfl (Nat.le_of_ble_eq_true rfl) (by simp [Value.category]) rfl ?_
  have n12 := hX.n12
  have n32 := hX.n32
  refine xa_aload_n (pc := 0) dX7_look_0 rfl ?_
  refine xa_iload_n (pc := 1) dX7_look_1 rfl ?_
  refine xa_callV (pc := 2) hX.c_m129 (kd_129 _) rfl lcX7_100 dX7_look_2 (cx_hostAt E hX _) rfl rfl (by decide) (Nat.le_of_ble_eq_true rfl) (by decide) ?_
  rintro _ _ _ ⟨⟨hq2, rfl⟩ | ⟨hq2, rfl⟩, rfl, rfl⟩
  · refine xa_astore_n (pc := 5) dX7_look_5 (by decide) ?_
    refine xa_aload_n (pc := 6) dX7_look_6 rfl ?_
    refine xa_ifnonnull_ref (pc := 7) 12 dX7_look_7 (by decide) ?_
    refine xa_iload_n (pc := 12) dX7_look_12 rfl ?_
    by_cases s13_0 : n = 0
    · refine xa_tableIn (pc := 13) (x := n) 64 dX7_look_13 (by rw [s13_0]; decide) (by rw [s13_0]; decide) (by rw [s13_0]; rfl) (by decide) ?_
      refine xa_aload_n (pc := 64) dX7_look_64 rfl ?_
      refine xa_getIv (pc := 65) 3 8 _ lfX7_95 dX7_look_65 ((hX.hS (isH_lt hX.h100 hq2)).1 0 (by decide)) (kd_0 _) rfl (hX.h_state (isH_lt hX.h100 hq2)) ?_
      rw [show xm_look nh ns S v n = _ from if_pos hq2, show xm_lk ns S v n = _ by unfold xm_lk; rw [if_pos s13_0]]
      exact xa_zret dX7_look_68 rfl rfl ⟨rfl, rfl, rfl⟩
    by_cases s13_1 : n = 1
    · refine xa_tableIn (pc := 13) (x := n) 69 dX7_look_13 (by rw [s13_1]; decide) (by rw [s13_1]; decide) (by rw [s13_1]; rfl) (by decide) ?_
      refine xa_aload_n (pc := 69) dX7_look_69 rfl ?_
      refine xa_getIv (pc := 70) 3 7 _ lfX7_88 dX7_look_70 ((hX.hS (isH_lt hX.h100 hq2)).1 0 (by decide)) (kd_0 _) rfl (hX.h_net (isH_lt hX.h100 hq2)) ?_
      rw [show xm_look nh ns S v n = _ from if_pos hq2, show xm_lk ns S v n = _ by unfold xm_lk; rw [if_neg s13_0, if_pos s13_1]]
      exact xa_zret dX7_look_73 rfl rfl ⟨rfl, rfl, rfl⟩
    by_cases s13_2 : n = 2
    · refine xa_tableIn (pc := 13) (x := n) 74 dX7_look_13 (by rw [s13_2]; decide) (by rw [s13_2]; decide) (by rw [s13_2]; rfl) (by decide) ?_
      refine xa_aload_n (pc := 74) dX7_look_74 rfl ?_
      by_cases hb75 : S 139 (xc v) = 0
      · refine xa_getR (pc := 75) 3 11 none lfX7_155 dX7_look_75 ((hX.hS (isH_lt hX.h100 hq2)).1 0 (by decide)) (kd_0 _) rfl (hX.h_br0 (isH_lt hX.h100 hq2) hb75) ?_
        refine xa_ifnonnull_null (pc := 78) dX7_look_78 ?_
        refine xa_iconst (pc := 81) (v := (-1)) dX7_look_81 (by decide) ?_
        refine xa_goto (pc := 82) (tgt := 92) dX7_look_82 (by decide) ?_
        rw [show xm_look nh ns S v n = _ from if_pos hq2, show xm_lk ns S v n = _ by unfold xm_lk; rw [if_neg s13_0, if_neg s13_1, if_pos s13_2]]
        exact xa_zret dX7_look_92 rfl rfl ⟨congrArg (fun z => some (Value.int z)) (hX.ih_s0 (isH_lt hX.h100 hq2) hb75), rfl, rfl⟩
      · refine xa_getA (pc := 75) 3 11 (ci (xc v) 80) lfX7_155 dX7_look_75 ((hX.hS (isH_lt hX.h100 hq2)).1 0 (by decide)) (kd_0 _) rfl (hX.h_br1 (isH_lt hX.h100 hq2) hb75) ?_
        refine xa_ifnonnull_ref (pc := 78) 85 dX7_look_78 (by decide) ?_
        refine xa_aload_n (pc := 85) dX7_look_85 rfl ?_
        refine xa_getA (pc := 86) 3 11 (ci (xc v) 80) lfX7_155 dX7_look_86 ((hX.hS (isH_lt hX.h100 hq2)).1 0 (by decide)) (kd_0 _) rfl (hX.h_br1 (isH_lt hX.h100 hq2) hb75) ?_
        refine xa_getIv (pc := 89) 2 1 _ lfX7_209 dX7_look_89 (hX.l_br (isH_lt hX.h100 hq2) hb75).1 (kd_80 _) rfl (hX.h_bnet (isH_lt hX.h100 hq2) hb75) ?_
        rw [show xm_look nh ns S v n = _ from if_pos hq2, show xm_lk ns S v n = _ by unfold xm_lk; rw [if_neg s13_0, if_neg s13_1, if_pos s13_2]]
        exact xa_zret dX7_look_92 rfl rfl ⟨rfl, rfl, rfl⟩
    by_cases s13_3 : n = 3
    · refine xa_tableIn (pc := 13) (x := n) 93 dX7_look_13 (by rw [s13_3]; decide) (by rw [s13_3]; decide) (by rw [s13_3]; rfl) (by decide) ?_
      refine xa_aload_n (pc := 93) dX7_look_93 rfl ?_
      refine xa_aload_n (pc := 94) dX7_look_94 rfl ?_
      refine xa_callV (pc := 95) hX.c_m129 (kd_129 _) rfl lcX7_210 dX7_look_95 (cx_hasProxyAwake E hX (isH_lt hX.h100 hq2)) rfl rfl (by decide) (Nat.le_of_ble_eq_true rfl) (by decide) ?_
      rintro _ _ _ ⟨rfl, rfl, rfl⟩
      refine xa_if_eq (pc := 98) 111 dX7_look_98 (by decide) (fun h98 => ?_) (fun h98 => ?_)
      · have h98 := xa_b_0.mp h98
        refine xa_iconst (pc := 111) (v := (-1)) dX7_look_111 (by decide) ?_
        have npa : ¬ (S 136 (xc v) = 1 ∧ S 136 (xc (S 141 (xc v))) = 2) := fun c => by rw [(pa_e hX (isH_lt hX.h100 hq2)).mpr c] at h98; cases h98
        rw [show xm_look nh ns S v n = _ from if_pos hq2, show xm_lk ns S v n = -1 by unfold xm_lk; rw [if_neg s13_0, if_neg s13_1, if_neg s13_2, if_pos s13_3, lk_no npa]]
        exact xa_zret dX7_look_112 rfl rfl ⟨rfl, rfl, rfl⟩
      · have h98 := xa_b_n0.mp h98
        have pa := (pa_e hX (isH_lt hX.h100 hq2)).mp h98
        refine xa_aload_n (pc := 101) dX7_look_101 rfl ?_
        refine xa_getA (pc := 102) 3 10 (ci (xc (S 141 (xc v))) 0) lfX7_96 dX7_look_102 ((hX.hS (isH_lt hX.h100 hq2)).1 0 (by decide)) (kd_0 _) rfl (hX.h_px1 (isH_lt hX.h100 hq2) pa.1) ?_
        refine xa_getIv (pc := 105) 3 0 _ lfX7_32 dX7_look_105 ((hX.hS (hX.pxl (isH_lt hX.h100 hq2) pa.1)).1 0 (by decide)) (kd_0 _) rfl (hX.h_number (hX.pxl (isH_lt hX.h100 hq2) pa.1)) ?_
        refine xa_goto (pc := 108) (tgt := 112) dX7_look_108 (by decide) ?_
        rw [show xm_look nh ns S v n = _ from if_pos hq2, show xm_lk ns S v n = _ by unfold xm_lk; rw [if_neg s13_0, if_neg s13_1, if_neg s13_2, if_pos s13_3, if_pos pa.1, if_pos pa.2]]
        exact xa_zret dX7_look_112 rfl rfl ⟨congrArg (fun z => some (Value.int z)) (xa_in_eq (hX.ih_px (isH_lt hX.h100 hq2) pa.1).1), rfl, rfl⟩
    by_cases s13_4 : n = 4
    · refine xa_tableIn (pc := 13) (x := n) 113 dX7_look_13 (by rw [s13_4]; decide) (by rw [s13_4]; decide) (by rw [s13_4]; rfl) (by decide) ?_
      refine xa_aload_n (pc := 113) dX7_look_113 rfl ?_
      refine xa_getIv (pc := 114) 3 14 _ lfX7_213 dX7_look_114 ((hX.hS (isH_lt hX.h100 hq2)).1 0 (by decide)) (kd_0 _) rfl (hX.h_written (isH_lt hX.h100 hq2)) ?_
      rw [show xm_look nh ns S v n = _ from if_pos hq2, show xm_lk ns S v n = _ by unfold xm_lk; rw [if_neg s13_0, if_neg s13_1, if_neg s13_2, if_neg s13_3, if_pos s13_4]]
      exact xa_zret dX7_look_117 rfl rfl ⟨rfl, rfl, rfl⟩
    by_cases s13_5 : n = 5
    · refine xa_tableIn (pc := 13) (x := n) 118 dX7_look_13 (by rw [s13_5]; decide) (by rw [s13_5]; decide) (by rw [s13_5]; rfl) (by decide) ?_
      refine xa_aload_n (pc := 118) dX7_look_118 rfl ?_
      refine xa_getA (pc := 119) 3 4 (ci (xc v) 1) lfX7_134 dX7_look_119 ((hX.hS (isH_lt hX.h100 hq2)).1 0 (by decide)) (kd_0 _) rfl ((hX.hS (isH_lt hX.h100 hq2)).2 (0, 4, 1) (by decide)) ?_
      refine xa_callV (pc := 122) ((hX.hS (isH_lt hX.h100 hq2)).1 1 (by decide)) (kd_1 _) rfl lcX7_216 dX7_look_122 (cx_s6 E hX (isH_lt hX.h100 hq2)) rfl rfl (by decide) (Nat.le_of_ble_eq_true rfl) (by decide) ?_
      rintro _ _ _ ⟨rfl, rfl, rfl⟩
      rw [show xm_look nh ns S v n = _ from if_pos hq2, show xm_lk ns S v n = _ by unfold xm_lk; rw [if_neg s13_0, if_neg s13_1, if_neg s13_2, if_neg s13_3, if_neg s13_4, if_pos s13_5]]
      exact xa_zret dX7_look_125 rfl rfl ⟨rfl, rfl, rfl⟩
    by_cases s13_6 : n = 6
    · refine xa_tableIn (pc := 13) (x := n) 126 dX7_look_13 (by rw [s13_6]; decide) (by rw [s13_6]; decide) (by rw [s13_6]; rfl) (by decide) ?_
      refine xa_aload_n (pc := 126) dX7_look_126 rfl ?_
      refine xa_getIv (pc := 127) 3 9 _ lfX7_91 dX7_look_127 ((hX.hS (isH_lt hX.h100 hq2)).1 0 (by decide)) (kd_0 _) rfl (hX.h_isKeeper (isH_lt hX.h100 hq2)) ?_
      refine xa_if_eq (pc := 130) 137 dX7_look_130 (by decide) (fun h130 => ?_) (fun h130 => ?_)
      · refine xa_iconst (pc := 137) (v := 0) dX7_look_137 (by decide) ?_
        rw [show xm_look nh ns S v n = _ from if_pos hq2, show xm_lk ns S v n = _ by unfold xm_lk; rw [if_neg s13_0, if_neg s13_1, if_neg s13_2, if_neg s13_3, if_neg s13_4, if_neg s13_5, if_pos s13_6, if_pos h130]]
        exact xa_zret dX7_look_138 rfl rfl ⟨rfl, rfl, rfl⟩
      · refine xa_iconst (pc := 133) (v := 1) dX7_look_133 (by decide) ?_
        refine xa_goto (pc := 134) (tgt := 138) dX7_look_134 (by decide) ?_
        rw [show xm_look nh ns S v n = _ from if_pos hq2, show xm_lk ns S v n = _ by unfold xm_lk; rw [if_neg s13_0, if_neg s13_1, if_neg s13_2, if_neg s13_3, if_neg s13_4, if_neg s13_5, if_pos s13_6, if_neg h130]]
        exact xa_zret dX7_look_138 rfl rfl ⟨rfl, rfl, rfl⟩
    by_cases s13_7 : n = 7
    · refine xa_tableIn (pc := 13) (x := n) 139 dX7_look_13 (by rw [s13_7]; decide) (by rw [s13_7]; decide) (by rw [s13_7]; rfl) (by decide) ?_
      refine xa_aload_n (pc := 139) dX7_look_139 rfl ?_
      refine xa_getA (pc := 140) 3 5 (ci (xc v) 6) lfX7_71 dX7_look_140 ((hX.hS (isH_lt hX.h100 hq2)).1 0 (by decide)) (kd_0 _) rfl ((hX.hS (isH_lt hX.h100 hq2)).2 (0, 5, 6) (by decide)) ?_
      refine xa_callV (pc := 143) ((hX.hS (isH_lt hX.h100 hq2)).1 6 (by decide)) (kd_6 _) rfl lcX7_220 dX7_look_143 (cx_s1 E hX (isH_lt hX.h100 hq2)) rfl rfl (by decide) (Nat.le_of_ble_eq_true rfl) (by decide) ?_
      rintro _ _ _ ⟨rfl, rfl, rfl⟩
      rw [show xm_look nh ns S v n = _ from if_pos hq2, show xm_lk ns S v n = _ by unfold xm_lk; rw [if_neg s13_0, if_neg s13_1, if_neg s13_2, if_neg s13_3, if_neg s13_4, if_neg s13_5, if_neg s13_6, if_pos s13_7]]
      exact xa_zret dX7_look_146 rfl rfl ⟨rfl, rfl, rfl⟩
    by_cases s13_8 : n = 8
    · refine xa_tableIn (pc := 13) (x := n) 147 dX7_look_13 (by rw [s13_8]; decide) (by rw [s13_8]; decide) (by rw [s13_8]; rfl) (by decide) ?_
      refine xa_aload_n (pc := 147) dX7_look_147 rfl ?_
      refine xa_getA (pc := 148) 3 6 (ci (xc v) 9) lfX7_143 dX7_look_148 ((hX.hS (isH_lt hX.h100 hq2)).1 0 (by decide)) (kd_0 _) rfl ((hX.hS (isH_lt hX.h100 hq2)).2 (0, 6, 9) (by decide)) ?_
      refine xa_callV (pc := 151) ((hX.hS (isH_lt hX.h100 hq2)).1 9 (by decide)) (kd_9 _) rfl lcX7_221 dX7_look_151 (cx_s0 E hX (isH_lt hX.h100 hq2)) rfl rfl (by decide) (Nat.le_of_ble_eq_true rfl) (by decide) ?_
      rintro _ _ _ ⟨rfl, rfl, rfl⟩
      rw [show xm_look nh ns S v n = _ from if_pos hq2, show xm_lk ns S v n = _ by unfold xm_lk; rw [if_neg s13_0, if_neg s13_1, if_neg s13_2, if_neg s13_3, if_neg s13_4, if_neg s13_5, if_neg s13_6, if_neg s13_7, if_pos s13_8]]
      exact xa_zret dX7_look_154 rfl rfl ⟨rfl, rfl, rfl⟩
    refine xa_tableOut (pc := 13) (x := n) 155 dX7_look_13 (by have q0 : n.toInt ≠ 0 := (fun e => s13_0 (Int32.toInt_inj.mp e)); have q1 : n.toInt ≠ 1 := (fun e => s13_1 (Int32.toInt_inj.mp e)); have q2 : n.toInt ≠ 2 := (fun e => s13_2 (Int32.toInt_inj.mp e)); have q3 : n.toInt ≠ 3 := (fun e => s13_3 (Int32.toInt_inj.mp e)); have q4 : n.toInt ≠ 4 := (fun e => s13_4 (Int32.toInt_inj.mp e)); have q5 : n.toInt ≠ 5 := (fun e => s13_5 (Int32.toInt_inj.mp e)); have q6 : n.toInt ≠ 6 := (fun e => s13_6 (Int32.toInt_inj.mp e)); have q7 : n.toInt ≠ 7 := (fun e => s13_7 (Int32.toInt_inj.mp e)); have q8 : n.toInt ≠ 8 := (fun e => s13_8 (Int32.toInt_inj.mp e)); omega) (by decide) ?_
    refine xa_iconst (pc := 155) (v := (-1)) dX7_look_155 (by decide) ?_
    rw [show xm_look nh ns S v n = _ from if_pos hq2, show xm_lk ns S v n = _ by unfold xm_lk; rw [if_neg s13_0, if_neg s13_1, if_neg s13_2, if_neg s13_3, if_neg s13_4, if_neg s13_5, if_neg s13_6, if_neg s13_7, if_neg s13_8]]
    exact xa_zret dX7_look_156 rfl rfl ⟨rfl, rfl, rfl⟩
  · refine xa_astore_nN (pc := 5) dX7_look_5 (by decide) ?_
    refine xa_aload_nN (pc := 6) dX7_look_6 rfl ?_
    refine xa_ifnonnull_null (pc := 7) dX7_look_7 ?_
    refine xa_iconst (pc := 10) (v := (-1)) dX7_look_10 (by decide) ?_
    rw [show xm_look nh ns S v n = _ from if_neg (by rw [hq2]; decide)]
    exact xa_zret dX7_look_11 rfl rfl ⟨rfl, rfl, rfl⟩
