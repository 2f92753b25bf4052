theorem brs_e {nh ns : Nat} {pw : Nat → Nat} {L : List Nat} {T : xa_AH} {R : xa_AR} {S : xa_AH} (hX : RX nh ns 0 pw L T R S) {xh : Int32} (hv : vp_in xh nh) : xa_any (br_s S xh) ns = xa_any (cq_hd S (xc xh)) ns := by
  have ex : xh = nI (xc xh) := xa_in_eq hv
  refine xa_any_cong (fun s hs => ?_)
  have eq : S 146 s = xh ↔ xc (S 146 s) = xc xh := by
    constructor
    · intro e; rw [e]
    · intro e; rw [hX.hE hs, e]; exact ex.symm
  simp [br_s, cq_hd, eq]
theorem brp_e {nh ns : Nat} {pw : Nat → Nat} {L : List Nat} {T : xa_AH} {R : xa_AR} {S : xa_AH} (hX : RX nh ns 0 pw L T R S) {xh : Int32} (hv : vp_in xh nh) : xa_any (br_p S xh) nh = xa_any (cq_ps S (xc xh)) nh := by
  have ex : xh = nI (xc xh) := xa_in_eq hv
  refine xa_any_cong (fun x hx => ?_)
  unfold br_p cq_ps
  by_cases e : S 136 x = 1
  · have z := hX.ih_px hx e
    have c : S 137 x = 0 := by
      rcases hX.ih_lv hx with c | c
      · exact c
      · rw [e] at c; exact absurd c.2 (by decide)
    have e2 : S 141 x = nI (xc (S 141 x)) := xa_in_eq z.1
    have eq : S 141 x = xh ↔ xc (S 141 x) = xc xh := by
      constructor
      · intro q; rw [q]
      · intro q; rw [e2, q]; exact ex.symm
    simp [e, xs1, c, eq]
  · simp [e, xs1]
theorem hlp_and4 {nh : Nat} {S : xa_AH} {xh : Int32} {a b c d : Bool} : (xm_up nh S xh && (a && (b && (c && (decide (S 139 (xc xh) = 0) && d))))) = (xm_hlp nh S xh && (a && (b && (c && d)))) := by
  unfold xm_hlp
  generalize xm_up nh S xh = u
  generalize decide (S 139 (xc xh) = 0) = e
  cases u <;> cases a <;> cases b <;> cases c <;> cases d <;> cases e <;> rfl
theorem bra_y {nh ns : Nat} {pw : Nat → Nat} {L : List Nat} {T : xa_AH} {R : xa_AR} {S : xa_AH} (hX : RX nh ns 0 pw L T R S) {xh : Int32} (hh : xc xh < nh) (g : (!xa_any (fun j => decide (¬ S 164 (16 * xc xh + j) = 0)) 16) = true) : xa_any (br_a S xh) 16 = false := by
  show xa_any (fun j => decide (¬ S 164 (16 * xc xh + j) = 0)) 16 = false
  cases e : xa_any (fun j => decide (¬ S 164 (16 * xc xh + j) = 0)) 16
  · rfl
  · rw [e] at g; cases g
theorem bra_n {nh ns : Nat} {pw : Nat → Nat} {L : List Nat} {T : xa_AH} {R : xa_AR} {S : xa_AH} (hX : RX nh ns 0 pw L T R S) {xh : Int32} (hh : xc xh < nh) (g : (!xa_any (fun j => decide (¬ S 164 (16 * xc xh + j) = 0)) 16) = false) : ¬ xa_any (br_a S xh) 16 = false := by
  intro c
  rw [show xa_any (fun j => decide (¬ S 164 (16 * xc xh + j) = 0)) 16 = false from c] at g
  cases g
set_option maxHeartbeats 4000000 in
theorem cx_bridge (E : xa_EV) {L : List Nat} {T : xa_AH} {R : xa_AR} {nh ns : Nat} {pw : Nat → Nat} {S : xa_AH} (hX : RX nh ns 0 pw L T R S) (xh net kd : Int32) : xa_CtA E mX7_bridge [.ref (ci 0 129), .int xh, .int net, .int kd] L T R (PXA pw (.int (xa_b (xm_bridge nh ns S xh net kd).1)) nh ns (xm_bridge nh ns S xh net kd).2) := by
  refine xa_CtA.of [some (.ref (ci 0 129)), some (.int xh), some (.int net), some (.int kd), none] rfl (Nat.le_of_ble_eq_true rfl) (by simp [Value.category]) rfl ?_
  have n12 := hX.n12
  have n32 := hX.n32
  refine xa_aload_n (pc := 0) dX7_bridge_0 rfl ?_
  refine xa_iload_n (pc := 1) dX7_bridge_1 rfl ?_
  refine xa_callV (pc := 2) hX.c_m129 (kd_129 _) rfl lcX7_35 dX7_bridge_2 (cx_stayingHelper E hX _) rfl rfl (by decide) (Nat.le_of_ble_eq_true rfl) (by decide) ?_
  rintro _ _ _ ⟨⟨hq2, rfl⟩ | ⟨hq2, rfl⟩, rfl, rfl⟩
  · refine xa_astore (pc := 5) dX7_bridge_5 (by decide) ?_
    refine xa_aload (pc := 7) dX7_bridge_7 rfl ?_
    refine xa_ifnull_ref (pc := 9) dX7_bridge_9 ?_
    have hv := (xm_isH_t hX.h100).mp (xm_up_h (hlp_up hq2))
    have hh : xc xh < nh := xa_in_lt hv
    refine xa_iload_n (pc := 12) dX7_bridge_12 rfl ?_
    refine xa_callS (pc := 13) lcX7_21 dX7_bridge_13 (cx_isNet E _) rfl rfl (by decide) (Nat.le_of_ble_eq_true rfl) (by decide) ?_
    rintro _ _ _ ⟨rfl, rfl, rfl⟩
    refine xa_if_eq (pc := 16) 38 dX7_bridge_16 (by decide) (fun h16 => ?_) (fun h16 => ?_)
    · have h16 := xa_b_0.mp h16
      refine xa_iconst (pc := 38) (v := 0) dX7_bridge_38 (by decide) ?_
      rw [show xm_bridge nh ns S xh net kd = _ from if_neg (fun c => by have q := c.1; simp [xm_brc, h16] at q)]
      exact xa_zretA dX7_bridge_39 rfl (by decide) ⟨rfl, hX⟩
    · have h16 := xa_b_n0.mp h16
      refine xa_iload_n (pc := 19) dX7_bridge_19 rfl ?_
      refine xa_aload (pc := 20) dX7_bridge_20 rfl ?_
      refine xa_getIv (pc := 22) 3 7 _ lfX7_88 dX7_bridge_22 ((hX.hS (aw_lt hX.h100 (hlp_up hq2))).1 0 (by decide)) (kd_0 _) rfl (hX.h_net (aw_lt hX.h100 (hlp_up hq2))) ?_
      refine xa_icmp_eq (pc := 25) 38 dX7_bridge_25 (by decide) (fun h25 => ?_) (fun h25 => ?_)
      · refine xa_iconst (pc := 38) (v := 0) dX7_bridge_38 (by decide) ?_
        rw [show xm_bridge nh ns S xh net kd = _ from if_neg (fun c => by have q := c.1; simp [xm_brc, h25] at q)]
        exact xa_zretA dX7_bridge_39 rfl (by decide) ⟨rfl, hX⟩
      · refine xa_iload_n (pc := 28) dX7_bridge_28 rfl ?_
        refine xa_if_lt (pc := 29) 38 dX7_bridge_29 (by decide) (fun h29 => ?_) (fun h29 => ?_)
        · refine xa_iconst (pc := 38) (v := 0) dX7_bridge_38 (by decide) ?_
          rw [show xm_bridge nh ns S xh net kd = _ from if_neg (fun c => by have q := c.1; simp [xm_brc, xm_in, Int32.not_le.mpr h29] at q)]
          exact xa_zretA dX7_bridge_39 rfl (by decide) ⟨rfl, hX⟩
        · refine xa_iload_n (pc := 32) dX7_bridge_32 rfl ?_
          refine xa_ldc (pc := 33) dX7_bridge_33 lkX7_122 ?_
          refine xa_icmp_le (pc := 35) 40 dX7_bridge_35 (by decide) (fun h35 => ?_) (fun h35 => ?_)
          · refine xa_aload (pc := 40) dX7_bridge_40 rfl ?_
            refine xa_getIv (pc := 42) 3 9 _ lfX7_91 dX7_bridge_42 ((hX.hS (aw_lt hX.h100 (hlp_up hq2))).1 0 (by decide)) (kd_0 _) rfl (hX.h_isKeeper (aw_lt hX.h100 (hlp_up hq2))) ?_
            refine xa_if_ne (pc := 45) 59 dX7_bridge_45 (by decide) (fun h45 => ?_) (fun h45 => ?_)
            · refine xa_iconst (pc := 59) (v := 0) dX7_bridge_59 (by decide) ?_
              rw [show xm_bridge nh ns S xh net kd = _ from if_neg (fun c => by have q := c.1; simp [xm_brc, h45] at q)]
              exact xa_zretA dX7_bridge_60 rfl (by decide) ⟨rfl, hX⟩
            · refine xa_aload (pc := 48) dX7_bridge_48 rfl ?_
              refine xa_getA (pc := 50) 3 5 (ci (xc xh) 6) lfX7_71 dX7_bridge_50 ((hX.hS (aw_lt hX.h100 (hlp_up hq2))).1 0 (by decide)) (kd_0 _) rfl ((hX.hS (aw_lt hX.h100 (hlp_up hq2))).2 (0, 5, 6) (by decide)) ?_
              refine xa_callV (pc := 53) ((hX.hS (aw_lt hX.h100 (hlp_up hq2))).1 6 (by decide)) (kd_6 _) rfl lcX7_123 dX7_bridge_53 (rq_aempty E hX (aw_lt hX.h100 (hlp_up hq2))) rfl rfl (by decide) (Nat.le_of_ble_eq_true rfl) (by decide) ?_
              rintro _ _ _ ⟨rfl, rfl, rfl⟩
              refine xa_if_ne (pc := 56) 61 dX7_bridge_56 (by decide) (fun h56 => ?_) (fun h56 => ?_)
              · have h56 := xa_b_n0.mp h56
                refine xa_aload_n (pc := 61) dX7_bridge_61 rfl ?_
                refine xa_aload (pc := 62) dX7_bridge_62 rfl ?_
                refine xa_callV (pc := 64) hX.c_m129 (kd_129 _) rfl lcX7_127 dX7_bridge_64 (cx_hasHadServices E hX (aw_lt hX.h100 (hlp_up hq2))) rfl rfl (by decide) (Nat.le_of_ble_eq_true rfl) (by decide) ?_
                rintro _ _ _ ⟨rfl, rfl, rfl⟩
                refine xa_if_ne (pc := 67) 79 dX7_bridge_67 (by decide) (fun h67 => ?_) (fun h67 => ?_)
                · have h67 := xa_b_n0.mp h67
                  refine xa_iconst (pc := 79) (v := 0) dX7_bridge_79 (by decide) ?_
                  rw [show xm_bridge nh ns S xh net kd = _ from if_neg (fun c => by have q := c.2.1; rw [brs_e hX hv, h67] at q; cases q)]
                  exact xa_zretA dX7_bridge_80 rfl (by decide) ⟨rfl, hX⟩
                · have h67 := xa_b_0.mp h67
                  refine xa_aload_n (pc := 70) dX7_bridge_70 rfl ?_
                  refine xa_aload (pc := 71) dX7_bridge_71 rfl ?_
                  refine xa_callV (pc := 73) hX.c_m129 (kd_129 _) rfl lcX7_131 dX7_bridge_73 (cx_isProxyOfASleeper E hX (aw_lt hX.h100 (hlp_up hq2))) rfl rfl (by decide) (Nat.le_of_ble_eq_true rfl) (by decide) ?_
                  rintro _ _ _ ⟨rfl, rfl, rfl⟩
                  refine xa_if_eq (pc := 76) 81 dX7_bridge_76 (by decide) (fun h76 => ?_) (fun h76 => ?_)
                  · have h76 := xa_b_0.mp h76
                    have hk : xm_brc nh S xh net kd = true := by
                      unfold xm_brc
                      rw [hlp_up hq2, h16, show xm_in kd 0 65535 = true by simp [xm_in, Int32.not_lt.mp h29, h35]]
                      simp [h25, hlp_b hq2, h45]
                    rw [show xm_bridge nh ns S xh net kd = _ from if_pos ⟨hk, by rw [brs_e hX hv]; exact h67, bra_y hX hh h56, by rw [brp_e hX hv]; exact h76⟩]
                    have h9 := hlp_b hq2
                    refine xa_aload (pc := 81) dX7_bridge_81 rfl ?_
                    refine xa_getA (pc := 83) 3 4 (ci (xc xh) 1) lfX7_134 dX7_bridge_83 ((hX.hS hh).1 0 (by decide)) (kd_0 _) rfl ((hX.hS hh).2 (0, 4, 1) (by decide)) ?_
                    refine xa_callV (pc := 86) ((hX.hS hh).1 1 (by decide)) (kd_1 _) rfl lcX7_138 dX7_bridge_86 (cx_clear E (hX.hS hh)) rfl rfl (by decide) (Nat.le_of_ble_eq_true rfl) (by decide) ?_
                    rintro _ _ _ ⟨rfl, rfl, rfl⟩
                    refine xa_aload (pc := 89) dX7_bridge_89 rfl ?_
                    refine xa_getA (pc := 91) 3 6 (ci (xc xh) 9) lfX7_143 dX7_bridge_91 ((hX.hS hh).1 0 (by decide)) (kd_0 _) rfl ((hX.hS hh).2 (0, 6, 9) (by decide)) ?_
                    refine xa_callV (pc := 94) ((hX.hS hh).1 9 (by decide)) (kd_9 _) rfl lcX7_147 dX7_bridge_94 (cx_nclear E (hX.hS hh)) rfl rfl (by decide) (Nat.le_of_ble_eq_true rfl) (by decide) ?_
                    rintro _ _ _ ⟨rfl, rfl, rfl⟩
                    have hY := rx_emp hX hh
                    have nw : ∀ r, 32 ≤ r → r < 126 → ¬ ci (xc xh) r ∈ L := hX.l_nb hh h9
                    have e80 : ci (xc xh) 80 ≠ ci (xc xh) 0 := ci_ne (by decide) (by decide) (by decide)
                    have e89 : ci (xc xh) 80 ≠ ci 0 129 := ci_ne (by decide) (by decide) (by decide)
                    refine xa_aload (pc := 97) dX7_bridge_97 rfl ?_
                    refine xa_new (pc := 99) (ci (xc xh) 80) 2 lnX7_150 dX7_bridge_99 (kd_80 _) (nw 80 (by decide) (by decide)) (nw 80 (by decide) (by decide)) (fun z => by simp at z; exact e80 z) (fun z => by simp at z; rcases z with z | z; exact e89 z; exact e80 z) (fun b k z => nw 80 (by decide) (by decide) (hX.c_cl b k _ z)) (by decide) (by decide) ?_
                    refine xa_dup (pc := 102) dX7_bridge_102 rfl ?_
                    refine xa_iload_n (pc := 103) dX7_bridge_103 rfl ?_
                    refine xa_iload_n (pc := 104) dX7_bridge_104 rfl ?_
                    refine xa_callIA (pc := 105) lcX7_152 dX7_bridge_105 (cx_i2 E (h := xc xh) net kd (List.mem_append_right _ List.mem_cons_self) zr_0 (zr_cl hX.c_cl) (fun r a b z => (List.mem_append.mp z).elim (nw r a (by omega)) (fun z => by have q := List.mem_singleton.mp z; unfold ci at q; omega))) rfl rfl (by decide) (Nat.le_of_ble_eq_true rfl) (by decide) (by decide) (fun a ha => List.mem_append_left _ ha) (fun a ha => by simp at ha; rcases ha with e | e <;> rw [e] <;> first | exact List.mem_append_right _ List.mem_cons_self | exact List.mem_append_left _ ((hX.hS hh).1 0 (by decide))) (fun a ha => by simp at ha; rcases ha with e | e <;> rw [e] <;> first | exact List.mem_append_left _ hX.c_m129 | exact List.mem_append_left _ ((hX.hS hh).1 0 (by decide))) ?_
                    rintro _ L1 T1 R1 ⟨rfl, acc⟩
                    refine xa_putR (pc := 108) (some (ci (xc xh) 80)) 3 11 lpX7_155 dX7_bridge_108 (acc_m acc (List.mem_append_left _ ((hX.hS hh).1 0 (by decide)))) (kd_0 _) rfl (fun _ => by cases ‹Option Nat› <;> rfl) (fun _ => by cases ‹Option Nat› <;> rfl) ?_
                    refine xa_iconst (pc := 111) (v := 1) dX7_bridge_111 (by decide) ?_
                    have hn := xm_in_t.mp h16
                    rw [fa_le, fa_le] at hn
                    have v0 : (0 : Int32).toInt = 0 := rfl
                    have v3 : (3 : Int32).toInt = 3 := rfl
                    rw [v0, v3] at hn
                    refine xa_zretA dX7_bridge_112 rfl (by decide) ⟨rfl, ?_⟩
                    show RX nh ns 0 pw L1 T1 _ (xm_brS S (xc xh) net kd)
                    rw [bg_emp]
                    exact RX_brdg hY hh (by rw [show xm_emp (xc xh) S 139 = S 139 by funext y; rw [emp_e, if_neg (by omega), if_neg (by omega)]]; exact h9) (vp_in_iff.mpr ⟨by omega, by omega⟩) acc
                  · have h76 := xa_b_n0.mp h76
                    refine xa_iconst (pc := 79) (v := 0) dX7_bridge_79 (by decide) ?_
                    rw [show xm_bridge nh ns S xh net kd = _ from if_neg (fun c => by have q := c.2.2.2; rw [brp_e hX hv, h76] at q; cases q)]
                    exact xa_zretA dX7_bridge_80 rfl (by decide) ⟨rfl, hX⟩
              · have h56 := xa_b_0.mp h56
                refine xa_iconst (pc := 59) (v := 0) dX7_bridge_59 (by decide) ?_
                rw [show xm_bridge nh ns S xh net kd = _ from if_neg (fun c => by exact bra_n hX (isH_lt hX.h100 (xm_up_h (hlp_up hq2))) h56 c.2.2.1)]
                exact xa_zretA dX7_bridge_60 rfl (by decide) ⟨rfl, hX⟩
          · refine xa_iconst (pc := 38) (v := 0) dX7_bridge_38 (by decide) ?_
            rw [show xm_bridge nh ns S xh net kd = _ from if_neg (fun c => by have q := c.1; simp [xm_brc, xm_in, Int32.not_le.mp h35] at q; exact absurd q.2.2.2.1.2 h35)]
            exact xa_zretA dX7_bridge_39 rfl (by decide) ⟨rfl, hX⟩
  · refine xa_astoreN (pc := 5) dX7_bridge_5 (by decide) ?_
    refine xa_aloadN (pc := 7) dX7_bridge_7 rfl ?_
    refine xa_ifnull_null (pc := 9) 38 dX7_bridge_9 (by decide) ?_
    refine xa_iconst (pc := 38) (v := 0) dX7_bridge_38 (by decide) ?_
    rw [show xm_bridge nh ns S xh net kd = _ from if_neg (fun c => by have q := c.1; unfold xm_brc at q; rw [hlp_and4] at q; rw [hq2] at q; cases q)]
    exact xa_zretA dX7_bridge_39 rfl (by decide) ⟨rfl, hX⟩
