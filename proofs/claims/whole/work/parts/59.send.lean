theorem yl_36 {ns s : Nat} {S : xa_AH} : xm_yld ns S s 130 36 = S 130 36 := yld_36
theorem ha_36 {nh ns x l kd : Nat} {d : Int32} {U : xa_AH} : xm_ha nh ns x l kd d U 130 36 = U 130 36 := by
  have g1 : (if ¬ U 164 (16 * x + kd) = 0 ∧ U 165 (16 * x + kd) = U 180 (16 * l + kd) ∧ U 181 (16 * l + kd) &&& (xm_kn ns U x (nI kd) d ^^^ (-1)) = 0 then xa_up U 164 (16 * x + kd) 0 else U) 130 36 = U 130 36 := by
    split <;> rfl
  unfold xm_ha xm_haD xm_haC
  generalize (if ¬ U 164 (16 * x + kd) = 0 ∧ U 165 (16 * x + kd) = U 180 (16 * l + kd) ∧ U 181 (16 * l + kd) &&& (xm_kn ns U x (nI kd) d ^^^ (-1)) = 0 then xa_up U 164 (16 * x + kd) 0 else U) = V at g1 ⊢
  rw [← g1]
  split
  · unfold xm_haB
    refine lp_c (fun i W => ?_) ns V
    unfold xm_ha1; split
    · rfl
    · split
      · split
        · rw [due_a (by decide)]
        · rfl
      · split
        · rw [due_a (by decide)]
        · rfl
  · rfl
theorem hc1_36 {ns h s x : Nat} {n t : Int32} {S : xa_AH} : xm_hc1 ns h s n t x S 130 36 = S 130 36 := by
  unfold xm_hc1; split
  · rfl
  · split
    · rw [due_a (by decide)]
    · split
      · exact yld_36
      · rfl
theorem ht_36 {ns x s row : Nat} {d : Int32} {U : xa_AH} : xm_ht ns x s row d U 130 36 = U 130 36 := by
  unfold xm_ht; split
  · rw [← lp_c (f := xm_ht1 ns x s (U 187 row) d) (a := 130) (b := 36) (fun i S => ht1_36) ns U]
    generalize U 187 row = n0
    generalize U 189 row = d0
    generalize xa_lp (xm_ht1 ns x s n0 d) ns U = V
    unfold xm_htD
    have g2 : (if 2 * d0 < V 150 s then V else xa_up V 163 (32 * x + s) (-1)) 130 36 = V 130 36 := by
      split <;> rfl
    generalize (if 2 * d0 < V 150 s then V else xa_up V 163 (32 * x + s) (-1)) = W at g2 ⊢
    rw [← g2]
    unfold xm_htC; split
    · rfl
    · unfold xm_htB; split
      · rfl
      · unfold xm_htS
        show xa_lp (xm_ht3 x s n0) ns W 130 36 = _
        refine lp_c (fun i Z => ?_) ns W
        unfold xm_ht3; split <;> rfl
  · rfl
theorem hears_36 {nh ns h l : Nat} {t : Int32} {S : xa_AH} : xm_hears nh ns h l t S 130 36 = S 130 36 := by
  unfold xm_hears
  rw [lp_c (fun i V => by unfold xm_he4; split <;> first | rfl | exact ht_36), lp_c (fun i V => by unfold xm_he3; split <;> rfl), lp_c (fun i V => by unfold xm_he2; split <;> first | rfl | exact lp_c (fun j W => hc1_36) _ _), lp_c (fun i V => by unfold xm_he1; split <;> first | rfl | exact ha_36)]
theorem HI_hears {nh h ns x l : Nat} {t net d : Int32} {U : xa_AH} (g : HI nh h t net U) : HI nh h t net (xm_hears nh ns x l d U) := by
  unfold xm_hears
  refine HI_lp (HI_lp (HI_lp (HI_lp g (fun i V w => ?_)) (fun i V w => ?_)) (fun i V w => HI_he3 w)) (fun i V w => ?_)
  · unfold xm_he1; split
    · exact w
    · exact HI_ha w
  · unfold xm_he2; split
    · exact w
    · exact HI_lp w (fun j W z => HI_hc1 z)
  · unfold xm_he4; split
    · exact w
    · exact HI_ht w
theorem on_e {nh ns k : Nat} {pw : Nat → Nat} {L : List Nat} {T : xa_AH} {R : xa_AR} {S : xa_AH} (hX : RX nh ns k pw L T R S) {x : Nat} {net : Int32} (hx : x < nh) (hnet : vp_in net 4) : (cq_on S x net = true) = ¬ ((¬ S 131 x = net ∧ ¬ S 132 x = net) ∨ S 131 x = S 132 x) := by
  have m1 : ∀ v : Int32, vp_in v 4 → ¬ v = -1 := fun v hv e => by
    rw [e] at hv; have := vp_in_iff.mp hv; have z : (-1 : Int32).toInt = -1 := rfl; omega
  have hn := hX.ih_net hx
  unfold cq_on
  apply propext
  by_cases g : S 139 x = 0
  · have e := hX.ih_s0 hx g
    have n1 : ¬ S 131 x = S 132 x := by rw [e]; exact m1 _ hn
    have n2 : ¬ S 132 x = net := by rw [e]; exact fun w => m1 _ hnet w.symm
    simp [g, n1, n2]
  · simp only [g, if_false]
    by_cases a : S 131 x = net <;> by_cases b : S 132 x = net <;> by_cases c : S 131 x = S 132 x <;> simp [a, b, c]
theorem ih1_36 {nh ns l w h : Nat} {t : Int32} {S : xa_AH} : xm_ih1 nh ns l w t h S 130 36 = S 130 36 := by
  unfold xm_ih1; split
  · rfl
  · split
    · exact congrFun (up_o (by decide)) 36
    · split
      · exact hears_36
      · exact cy_c (by decide)
theorem dec_in {v : Int32} (h : vp_in v 101) (g : ¬ v ≤ 0) : vp_in (v - 1) 101 := by
  have e : v = nI (xc v) := xa_in_eq h
  have l : xc v < 101 := xa_in_lt h
  have e2 : v.toInt = (xc v : Int) := by conv => lhs; rw [e]
                                         exact nI_toInt (by omega)
  rw [fa_le, e2] at g
  have z : (0 : Int32).toInt = 0 := rfl
  rw [z] at g
  rw [e]
  have e1 : (nI (xc v) - 1).toInt = (xc v : Int) - 1 := pk_sub_toInt (a := xc v) (b := 1) (by omega) (by omega)
  rw [vp_in_iff, e1]; omega
set_option maxHeartbeats 4000000 in
theorem lx_so38 (E : xa_EV) {L : List Nat} {T0 : xa_AH} {R : xa_AR} {nh ns : Nat} {pw : Nat → Nat} {w l q : Nat} (hw : w < nh) (hq : cs_l L R q) (hlq : lat w q) (t : Int32) (hrow : ∀ T2 S2, RX nh ns nh pw L T2 R S2 → T2 q = T0 q → lrow T2 S2 w q l) {S : xa_AH} : ∀ x, x ≤ nh → ∀ T U, RX nh ns nh pw L T R U → U = xa_lp (xm_ih1 nh ns l w t) x S → T q = T0 q → U 130 36 = t → xa_W E mX7_sendOut (xa_Z E mX7_sendOut L (PQ nh ns nh pw L q T0 R (xa_lp (xm_ih1 nh ns l w t) nh S))) 0 0 38 [some (.ref (ci 0 129)), some (.ref (ci w 0)), some (.ref q), some (.int (nI x)), none] [] L T R := by
  refine xa_dn (fun x hx ih => ?_)
  intro T U hX eU hqq hnow
  have n12 := hX.n12
  have n32 := hX.n32
  have hr := hrow T U hX hqq
  have hrowT : ∀ T2 S2, RX nh ns nh pw L T2 R S2 → T2 q = T q → lrow T2 S2 w q l := fun T2 S2 h1 h2 => hrow T2 S2 h1 (h2.trans hqq)
  refine xa_iload_n (pc := 38) dX7_sendOut_38 rfl ?_
  refine xa_aload_n (pc := 39) dX7_sendOut_39 rfl ?_
  refine xa_getIv (pc := 40) 7 2 _ lfX7_25 dX7_sendOut_40 hX.c_m129 (kd_129 _) rfl hX.g_nh ?_
  refine xa_icmpN_ge (pc := 43) 140 x nh dX7_sendOut_43 (by decide) rfl rfl (by omega) (by omega) (fun h43 => ?_) (fun h43 => ?_)
  · have g43 : ¬ (x < nh) := by omega
    have ex : x = nh := by omega
    subst ex
    exact xa_vret dX7_sendOut_140 rfl ⟨rfl, rfl, by rw [← eU]; exact hX, hqq⟩
  · refine xa_aload_n (pc := 46) dX7_sendOut_46 rfl ?_
    refine xa_getA (pc := 47) 7 0 (ci 0 126) lfX7_11 dX7_sendOut_47 hX.c_m129 (kd_129 _) rfl hX.c_r0 ?_
    refine xa_iload_n (pc := 50) dX7_sendOut_50 rfl ?_
    refine xa_aaldH (pc := 51) x (ci x 0) dX7_sendOut_51 hX.c_m126 rfl (by omega) (hX.hA (by omega)) ?_
    refine xa_astore (pc := 52) dX7_sendOut_52 (by decide) ?_
    refine xa_aload (pc := 54) dX7_sendOut_54 rfl ?_
    refine xa_aload_n (pc := 56) dX7_sendOut_56 rfl ?_
    refine xa_acmpC_eq (pc := 57) 134 (x := (ci x 0)) (y := (ci w 0)) dX7_sendOut_57 (by decide) ((hX.hS (by omega)).1 0 (by decide)) ((hX.hS hw).1 0 (by decide)) (fun h57 => ?_) (fun h57 => ?_)
    · have h57 := ci_i.mp h57
      refine xa_iinc (pc := 134) (v := nI (x + 1)) dX7_sendOut_134 rfl (by decide) (nI_1 _) ?_
      refine xa_goto (pc := 137) (tgt := 38) dX7_sendOut_137 (by decide) ?_
      exact xa_fgk (ih (by omega) _ _ hX (by rw [xa_lp, ← eU, xm_ih1, if_pos (Or.inl h57)]) hqq hnow) (And.intro rfl (And.intro rfl (And.intro rfl (And.intro rfl trivial))))
    · have h57 : ¬ (x = w) := fun q => h57 (ci_i.mpr q)
      refine xa_aload (pc := 60) dX7_sendOut_60 rfl ?_
      refine xa_getIv (pc := 62) 3 8 _ lfX7_95 dX7_sendOut_62 ((hX.hS (by omega)).1 0 (by decide)) (kd_0 _) rfl (hX.h_state (by omega)) ?_
      refine xa_iconst (pc := 65) (v := 2) dX7_sendOut_65 (by decide) ?_
      refine xa_icmp_ne (pc := 66) 134 dX7_sendOut_66 (by decide) (fun h66 => ?_) (fun h66 => ?_)
      · refine xa_iinc (pc := 134) (v := nI (x + 1)) dX7_sendOut_134 rfl (by decide) (nI_1 _) ?_
        refine xa_goto (pc := 137) (tgt := 38) dX7_sendOut_137 (by decide) ?_
        exact xa_fgk (ih (by omega) _ _ hX (by rw [xa_lp, ← eU, xm_ih1, if_pos (Or.inr (Or.inl (fun z => h66 (xs2.mpr ⟨z, hX.p_nl (i := x) (by omega)⟩))))]) hqq hnow) (And.intro rfl (And.intro rfl (And.intro rfl (And.intro rfl trivial))))
      · refine xa_aload (pc := 69) dX7_sendOut_69 rfl ?_
        refine xa_aload_n (pc := 71) dX7_sendOut_71 rfl ?_
        refine xa_getIv (pc := 72) 4 0 (T q 0) lfX7_348 dX7_sendOut_72 (hq).1 (hq).2.1 rfl rfl ?_
        refine xa_callV (pc := 75) ((hX.hS (by omega)).1 0 (by decide)) (kd_0 _) rfl lcX7_353 dX7_sendOut_75 (cx_isOn E hX (by omega) _) rfl rfl (by decide) (Nat.le_of_ble_eq_true rfl) (by decide) ?_
        rintro _ _ _ ⟨rfl, rfl, rfl⟩
        refine xa_if_eq (pc := 78) 134 dX7_sendOut_78 (by decide) (fun h78 => ?_) (fun h78 => ?_)
        · have h78 := xa_b_0.mp h78
          refine xa_iinc (pc := 134) (v := nI (x + 1)) dX7_sendOut_134 rfl (by decide) (nI_1 _) ?_
          refine xa_goto (pc := 137) (tgt := 38) dX7_sendOut_137 (by decide) ?_
          exact xa_fgk (ih (by omega) _ _ hX (by rw [xa_lp, ← eU, xm_ih1, if_pos (Or.inr (Or.inr (Classical.byContradiction (fun z => by rw [← on_e hX (by omega) (hr.2.1 ▸ hr.2.2.1), hr.2.1, h78] at z; cases z))))]) hqq hnow) (And.intro rfl (And.intro rfl (And.intro rfl (And.intro rfl trivial))))
        · have h78 := xa_b_n0.mp h78
          have ha : U 136 x = 2 := (xs2.mp h66).1
          have hon : ¬ ((¬ U 131 x = U 177 l ∧ ¬ U 132 x = U 177 l) ∨ U 131 x = U 132 x) := by rw [← on_e hX (by omega) (hr.2.1 ▸ hr.2.2.1), hr.2.1]; exact h78
          have hc : ¬ (x = w ∨ ¬ U 136 x = 2 ∨ (¬ U 131 x = U 177 l ∧ ¬ U 132 x = U 177 l) ∨ U 131 x = U 132 x) := fun g => g.elim h57 (fun g => g.elim (fun g => g ha) hon)
          refine xa_aload (pc := 81) dX7_sendOut_81 rfl ?_
          refine xa_getIv (pc := 83) 3 13 _ lfX7_162 dX7_sendOut_83 ((hX.hS (by omega)).1 0 (by decide)) (kd_0 _) rfl (hX.h_toMiss (by omega)) ?_
          refine xa_if_le (pc := 86) 103 dX7_sendOut_86 (by decide) (fun h86 => ?_) (fun h86 => ?_)
          · refine xa_aload (pc := 103) dX7_sendOut_103 rfl ?_
            by_cases hb105 : U 139 x = 0
            · refine xa_getR (pc := 105) 3 11 none lfX7_155 dX7_sendOut_105 ((hX.hS (by omega)).1 0 (by decide)) (kd_0 _) rfl (hX.h_br0 (by omega) hb105) ?_
              refine xa_ifnull_null (pc := 108) 126 dX7_sendOut_108 (by decide) ?_
              have hhome : U 131 x = T q 0 := by
                have z := h78
                unfold cq_on at z
                rw [if_pos hb105] at z
                exact of_decide_eq_true z
              refine xa_aload_n (pc := 126) dX7_sendOut_126 rfl ?_
              refine xa_aload (pc := 127) dX7_sendOut_127 rfl ?_
              refine xa_aload_n (pc := 129) dX7_sendOut_129 rfl ?_
              refine xa_aload_n (pc := 130) dX7_sendOut_130 rfl ?_
              refine xa_callV (pc := 131) hX.c_m129 (kd_129 _) rfl lcX7_360 dX7_sendOut_131 (cx_hearLetter E hX (h := x) (by omega) hw h57 hq (lat_lc hlq) t hrowT ⟨ha, hnow, fun i hi => hX.p_nl hi, hhome⟩) rfl rfl (by decide) (Nat.le_of_ble_eq_true rfl) (by decide) ?_
              rintro _ _ _ ⟨rfl, rfl, hX2, hfl⟩
              refine xa_iinc (pc := 134) (v := nI (x + 1)) dX7_sendOut_134 rfl (by decide) (nI_1 _) ?_
              refine xa_goto (pc := 137) (tgt := 38) dX7_sendOut_137 (by decide) ?_
              exact xa_fgk (ih (by omega) _ _ hX2 (by rw [xa_lp, ← eU, xm_ih1, if_neg hc, if_neg (fun g => g h86), if_pos hb105]) ((hfl q (lat_lc hlq).1).trans hqq) (hears_36.trans hnow)) (And.intro rfl (And.intro rfl (And.intro rfl (And.intro rfl trivial))))
            · refine xa_getA (pc := 105) 3 11 (ci x 80) lfX7_155 dX7_sendOut_105 ((hX.hS (by omega)).1 0 (by decide)) (kd_0 _) rfl (hX.h_br1 (by omega) hb105) ?_
              refine xa_ifnull_ref (pc := 108) dX7_sendOut_108 ?_
              refine xa_aload_n (pc := 111) dX7_sendOut_111 rfl ?_
              refine xa_aload (pc := 112) dX7_sendOut_112 rfl ?_
              refine xa_aload (pc := 114) dX7_sendOut_114 rfl ?_
              refine xa_getA (pc := 116) 3 11 (ci x 80) lfX7_155 dX7_sendOut_116 ((hX.hS (by omega)).1 0 (by decide)) (kd_0 _) rfl (hX.h_br1 (by omega) hb105) ?_
              refine xa_aload_n (pc := 119) dX7_sendOut_119 rfl ?_
              refine xa_callV (pc := 120) hX.c_m129 (kd_129 _) rfl lcX7_356 dX7_sendOut_120 (cx_takeUp E hX (h := x) (by omega) hb105 ha (fun e => h57 e.symm) hq hlq hrowT) rfl rfl (by decide) (Nat.le_of_ble_eq_true rfl) (by decide) ?_
              rintro _ _ _ ⟨rfl, rfl, hX2, hq2⟩
              refine xa_goto (pc := 123) (tgt := 134) dX7_sendOut_123 (by decide) ?_
              refine xa_iinc (pc := 134) (v := nI (x + 1)) dX7_sendOut_134 rfl (by decide) (nI_1 _) ?_
              refine xa_goto (pc := 137) (tgt := 38) dX7_sendOut_137 (by decide) ?_
              exact xa_fgk (ih (by omega) _ _ hX2 (by rw [xa_lp, ← eU, xm_ih1, if_neg hc, if_neg (fun g => g h86), if_neg hb105]) (hq2.trans hqq) ((cy_c (by decide)).trans hnow)) (And.intro rfl (And.intro rfl (And.intro rfl (And.intro rfl trivial))))
          · refine xa_aload (pc := 89) dX7_sendOut_89 rfl ?_
            refine xa_dup (pc := 91) dX7_sendOut_91 rfl ?_
            refine xa_getIv (pc := 92) 3 13 _ lfX7_162 dX7_sendOut_92 ((hX.hS (by omega)).1 0 (by decide)) (kd_0 _) rfl (hX.h_toMiss (by omega)) ?_
            refine xa_iconst (pc := 95) (v := 1) dX7_sendOut_95 (by decide) ?_
            refine xa_isub (pc := 96) dX7_sendOut_96 ?_
            refine xa_putI (pc := 97) 3 13 lpX7_162 dX7_sendOut_97 ((hX.hS (by omega)).1 0 (by decide)) (kd_0 _) rfl rfl rfl ?_
            refine xa_goto (pc := 100) (tgt := 134) dX7_sendOut_100 (by decide) ?_
            refine xa_iinc (pc := 134) (v := nI (x + 1)) dX7_sendOut_134 rfl (by decide) (nI_1 _) ?_
            refine xa_goto (pc := 137) (tgt := 38) dX7_sendOut_137 (by decide) ?_
            exact xa_fgk (ih (by omega) _ _ (rx_deaf hX (by omega) (dec_in (hX.ih_lo (h := x) (by omega)).2 h86)) (by rw [xa_lp, ← eU, xm_ih1, if_neg hc, if_pos h86]) (by rw [up_l (by decide) (by decide) (lat_lc hlq).1]; exact hqq) hnow) (And.intro rfl (And.intro rfl (And.intro rfl (And.intro rfl trivial))))
set_option maxHeartbeats 4000000 in
theorem cx_sendOut (E : xa_EV) {L : List Nat} {T : xa_AH} {R : xa_AR} {nh ns : Nat} {pw : Nat → Nat} {S : xa_AH} (hX : RX nh ns nh pw L T R S) {w l q : Nat} (hw : w < nh) (hq : cs_l L R q) (hlq : lat w q) (hrow : ∀ T2 S2, RX nh ns nh pw L T2 R S2 → T2 q = T q → lne T q = true → lrow T2 S2 w q l) : xa_Ct E mX7_sendOut [.ref (ci 0 129), .ref (ci w 0), .ref q] L T R (PQ nh ns nh pw L q T R (if lne T q = true then xm_ih nh ns l (S 130 36) S else S)) := by
  refine xa_Ct.of [some (.ref (ci 0 129)), some (.ref (ci w 0)), some (.ref q), none, none] rfl (Nat.le_of_ble_eq_true rfl) (by simp [Value.category]) rfl ?_
  have n12 := hX.n12
  have n32 := hX.n32
  refine xa_aload_n (pc := 0) dX7_sendOut_0 rfl ?_
  refine xa_callV (pc := 1) (hq).1 (hq).2.1 rfl lcX7_347 dX7_sendOut_1 (cx_lempty E hq) rfl rfl (by decide) (Nat.le_of_ble_eq_true rfl) (by decide) ?_
  rintro _ _ _ ⟨rfl, rfl, rfl⟩
  refine xa_if_eq (pc := 4) 8 dX7_sendOut_4 (by decide) (fun h4 => ?_) (fun h4 => ?_)
  · have h4 := xa_b_0.mp h4
    have hne : lne T q = true := by unfold lne; rw [h4]; rfl
    have hr := hrow T S hX rfl hne
    have hxw : xc (S 176 l) = w := by rw [hr.1]; exact xc_n (by omega)
    refine xa_aload_n (pc := 8) dX7_sendOut_8 rfl ?_
    refine xa_getIv (pc := 9) 3 12 _ lfX7_159 dX7_sendOut_9 ((hX.hS hw).1 0 (by decide)) (kd_0 _) rfl (hX.h_toLose hw) ?_
    refine xa_if_le (pc := 12) 36 dX7_sendOut_12 (by decide) (fun h12 => ?_) (fun h12 => ?_)
    · refine xa_iconst (pc := 36) (v := 0) dX7_sendOut_36 (by decide) ?_
      refine xa_istore_n (pc := 37) dX7_sendOut_37 (by decide) ?_
      rw [if_pos hne, show xm_ih nh ns l (S 130 36) S = _ from if_pos (by rw [hxw]; exact h12), hxw]
      exact xa_fgk (lx_so38 E hw hq hlq (S 130 36) (fun T2 S2 h1 h2 => hrow T2 S2 h1 h2 hne) 0 (Nat.zero_le _) _ _ hX rfl rfl rfl) (And.intro rfl (And.intro rfl (And.intro rfl (And.intro rfl trivial))))
    · refine xa_aload_n (pc := 15) dX7_sendOut_15 rfl ?_
      refine xa_dup (pc := 16) dX7_sendOut_16 rfl ?_
      refine xa_getIv (pc := 17) 3 12 _ lfX7_159 dX7_sendOut_17 ((hX.hS hw).1 0 (by decide)) (kd_0 _) rfl (hX.h_toLose hw) ?_
      refine xa_iconst (pc := 20) (v := 1) dX7_sendOut_20 (by decide) ?_
      refine xa_isub (pc := 21) dX7_sendOut_21 ?_
      refine xa_putI (pc := 22) 3 12 lpX7_159 dX7_sendOut_22 ((hX.hS hw).1 0 (by decide)) (kd_0 _) rfl rfl rfl ?_
      refine xa_aload_n (pc := 25) dX7_sendOut_25 rfl ?_
      refine xa_dup (pc := 26) dX7_sendOut_26 rfl ?_
      refine xa_getIv (pc := 27) 7 7 (S 130 38) lfX7_229 dX7_sendOut_27 hX.c_m129 (kd_129 _) rfl (by rw [up_o (ci_ne (by decide) (by decide) (by decide))]; exact hX.g_lost) ?_
      refine xa_iconst (pc := 30) (v := 1) dX7_sendOut_30 (by decide) ?_
      refine xa_iadd (pc := 31) dX7_sendOut_31 ?_
      refine xa_putI (pc := 32) 7 7 lpX7_229 dX7_sendOut_32 hX.c_m129 (kd_129 _) rfl rfl rfl ?_
      rw [if_pos hne, show xm_ih nh ns l (S 130 36) S = _ from if_neg (by rw [hxw]; exact h12), hxw]
      exact xa_vret dX7_sendOut_35 rfl ⟨rfl, rfl, rx_clost (rx_lose hX hw (dec_in (hX.ih_lo hw).1 h12)), by rw [up_l (by decide) (by decide) (lat_lc hlq).1, up_l (by decide) (by decide) (lat_lc hlq).1]⟩
  · have h4 := xa_b_n0.mp h4
    rw [if_neg (by unfold lne; rw [h4]; decide)]
    exact xa_vret dX7_sendOut_7 rfl ⟨rfl, rfl, hX, rfl⟩
theorem ih_36 {nh ns l : Nat} {t : Int32} {S : xa_AH} : xm_ih nh ns l t S 130 36 = S 130 36 := by
  unfold xm_ih; split
  · exact lp_c (fun i U => ih1_36) _ _
  · rfl
theorem lne_q {T T2 : xa_AH} {q : Nat} (h : T2 q = T q) : lne T2 q = lne T q := by unfold lne lx_all; rw [h]
def PR2 (nh ns k : Nat) (pw : Nat → Nat) (L : List Nat) (R : xa_AR) (S : xa_AH) : Option Value → xa_AH → xa_AR → Prop := fun r T2 R2 => none = r ∧ R = R2 ∧ RX nh ns k pw L T2 R S
set_option maxHeartbeats 4000000 in
theorem lx_hl2 (E : xa_EV) {L : List Nat} {R : xa_AR} {nh ns : Nat} {pw : Nat → Nat} (t : Int32) {S : xa_AH} : ∀ x, x ≤ nh → ∀ T U, RX nh ns nh pw L T R U → U = xa_lp (fun l S => xm_ih nh ns l t S) (pw x) S → U 130 36 = t → xa_W E mX7_hearLetters (xa_Z E mX7_hearLetters L (PR2 nh ns nh pw L R (xa_lp (fun l S => xm_ih nh ns l t S) (pw nh) S))) 0 0 2 [some (.ref (ci 0 129)), some (.int (nI x)), none] [] L T R := by
  refine xa_dn (fun x hx ih => ?_)
  intro T U hX eU hnow
  have n12 := hX.n12
  have n32 := hX.n32
  refine xa_iload_n (pc := 2) dX7_hearLetters_2 rfl ?_
  refine xa_aload_n (pc := 3) dX7_hearLetters_3 rfl ?_
  refine xa_getIv (pc := 4) 7 2 _ lfX7_25 dX7_hearLetters_4 hX.c_m129 (kd_129 _) rfl hX.g_nh ?_
  refine xa_icmpN_ge (pc := 7) 51 x nh dX7_hearLetters_7 (by decide) rfl rfl (by omega) (by omega) (fun h7 => ?_) (fun h7 => ?_)
  · have g7 : ¬ (x < nh) := by omega
    have ex : x = nh := by omega
    subst ex
    exact xa_vret dX7_hearLetters_51 rfl ⟨rfl, rfl, by rw [← eU]; exact hX⟩
  · refine xa_aload_n (pc := 10) dX7_hearLetters_10 rfl ?_
    refine xa_getA (pc := 11) 7 0 (ci 0 126) lfX7_11 dX7_hearLetters_11 hX.c_m129 (kd_129 _) rfl hX.c_r0 ?_
    refine xa_iload_n (pc := 14) dX7_hearLetters_14 rfl ?_
    refine xa_aaldH (pc := 15) x (ci x 0) dX7_hearLetters_15 hX.c_m126 rfl (by omega) (hX.hA (by omega)) ?_
    refine xa_astore_n (pc := 16) dX7_hearLetters_16 (by decide) ?_
    refine xa_aload_n (pc := 17) dX7_hearLetters_17 rfl ?_
    refine xa_aload_n (pc := 18) dX7_hearLetters_18 rfl ?_
    refine xa_aload_n (pc := 19) dX7_hearLetters_19 rfl ?_
    refine xa_getA (pc := 20) 3 15 (lt R x) lfX7_280 dX7_hearLetters_20 ((hX.hS (by omega)).1 0 (by decide)) (kd_0 _) rfl (hX.l_rl (by omega)) ?_
    refine xa_callV (pc := 23) hX.c_m129 (kd_129 _) rfl lcX7_349 dX7_hearLetters_23 (cx_sendOut E (l := pw x) hX (w := x) (by omega) (hX.l_cl (by omega)) (lat_lt hX (by omega)) (fun T2 S2 h1 h2 g => h1.p_a (i := x) (by omega) (by rw [lne_q h2]; exact g))) rfl rfl (by decide) (Nat.le_of_ble_eq_true rfl) (by decide) ?_
    rintro _ T1 _ ⟨rfl, rfl, hX, hq1⟩
    rw [hnow] at hX
    generalize hU1 : (if lne T (lt R x) = true then xm_ih nh ns (pw x) t U else U) = U1 at hX
    have hn1 : U1 130 36 = t := by rw [← hU1]; split <;> first | exact ih_36.trans hnow | exact hnow
    have e1 : U1 = xa_lp (fun l S => xm_ih nh ns l t S) (pw x + (if lne T (lt R x) = true then 1 else 0)) S := by
      rw [← hU1]
      split
      · rw [xa_lp, ← eU]
      · exact eU
    refine xa_aload_n (pc := 26) dX7_hearLetters_26 rfl ?_
    by_cases hb27 : U1 139 x = 0
    · refine xa_getR (pc := 27) 3 11 none lfX7_155 dX7_hearLetters_27 ((hX.hS (by omega)).1 0 (by decide)) (kd_0 _) rfl (hX.h_br0 (by omega) hb27) ?_
      refine xa_ifnull_null (pc := 30) 45 dX7_hearLetters_30 (by decide) ?_
      refine xa_iinc (pc := 45) (v := nI (x + 1)) dX7_hearLetters_45 rfl (by decide) (nI_1 _) ?_
      refine xa_goto (pc := 48) (tgt := 2) dX7_hearLetters_48 (by decide) ?_
      have s1 := hX.p_s (i := x) (by omega)
      rw [lne_q hq1, if_neg (show ¬ (¬ U1 139 x = 0 ∧ lne T1 (l2 R x) = true) from fun g => g.1 hb27)] at s1
      exact xa_fgk (ih (by omega) _ _ hX (by rw [s1]; exact e1) hn1) (And.intro rfl (And.intro rfl trivial))
    · refine xa_getA (pc := 27) 3 11 (ci x 80) lfX7_155 dX7_hearLetters_27 ((hX.hS (by omega)).1 0 (by decide)) (kd_0 _) rfl (hX.h_br1 (by omega) hb27) ?_
      refine xa_ifnull_ref (pc := 30) dX7_hearLetters_30 ?_
      have hb2 : ∀ T2 S2, RX nh ns nh pw L T2 R S2 → T2 (l2 R x) = T1 (l2 R x) → lne T1 (l2 R x) = true → lrow T2 S2 x (l2 R x) (pw x + (if lne T (lt R x) = true then 1 else 0)) := fun T2 S2 h1 h2 g => by
        have g2 : lne T2 (l2 R x) = true := by rw [lne_q h2]; exact g
        have b1 : ¬ S2 139 x = 0 := fun z => by have y := h1.h_br0 (h := x) (by omega) z; rw [hX.h_br1 (h := x) (by omega) hb27] at y; cases y
        have s1 := hX.p_s (i := x) (by omega)
        have s2 := h1.p_s (i := x) (by omega)
        rw [lne_q hq1, if_pos (show ¬ U1 139 x = 0 ∧ lne T1 (l2 R x) = true from ⟨hb27, g⟩)] at s1
        rw [if_pos (show ¬ S2 139 x = 0 ∧ lne T2 (l2 R x) = true from ⟨b1, g2⟩)] at s2
        have z := h1.p_b (i := x) (by omega) b1 g2
        have e : (if lne T2 (lt R x) = true then 1 else 0) = (if lne T (lt R x) = true then 1 else 0) := by omega
        rw [e] at z; exact z
      refine xa_aload_n (pc := 33) dX7_hearLetters_33 rfl ?_
      refine xa_aload_n (pc := 34) dX7_hearLetters_34 rfl ?_
      refine xa_aload_n (pc := 35) dX7_hearLetters_35 rfl ?_
      refine xa_getA (pc := 36) 3 11 (ci x 80) lfX7_155 dX7_hearLetters_36 ((hX.hS (by omega)).1 0 (by decide)) (kd_0 _) rfl (hX.h_br1 (by omega) hb27) ?_
      refine xa_getA (pc := 39) 2 2 (l2 R x) lfX7_343 dX7_hearLetters_39 (hX.l_br (by omega) hb27).1 (kd_80 _) rfl (hX.l_br (by omega) hb27).2.1 ?_
      refine xa_callV (pc := 42) hX.c_m129 (kd_129 _) rfl lcX7_349 dX7_hearLetters_42 (cx_sendOut E (l := pw x + (if lne T (lt R x) = true then 1 else 0)) hX (w := x) (by omega) ((hX.l_br (h := x) (by omega) hb27).2.2.2.2.1) (lat_b hX (by omega) hb27).1 (fun T2 S2 h1 h2 g => hb2 T2 S2 h1 h2 g)) rfl rfl (by decide) (Nat.le_of_ble_eq_true rfl) (by decide) ?_
      rintro _ _ _ ⟨rfl, rfl, hX2, hq2⟩
      refine xa_iinc (pc := 45) (v := nI (x + 1)) dX7_hearLetters_45 rfl (by decide) (nI_1 _) ?_
      refine xa_goto (pc := 48) (tgt := 2) dX7_hearLetters_48 (by decide) ?_
      have s1 := hX.p_s (i := x) (by omega)
      rw [hn1] at hX2
      by_cases g : lne T1 (l2 R x) = true
      · rw [if_pos g] at hX2
        rw [lne_q hq1, if_pos (show ¬ U1 139 x = 0 ∧ lne T1 (l2 R x) = true from ⟨hb27, g⟩)] at s1
        exact xa_fgk (ih (by omega) _ _ hX2 (by rw [s1, xa_lp, ← e1]) (ih_36.trans hn1)) (And.intro rfl (And.intro rfl trivial))
      · rw [if_neg g] at hX2
        rw [lne_q hq1, if_neg (show ¬ (¬ U1 139 x = 0 ∧ lne T1 (l2 R x) = true) from fun z => g z.2)] at s1
        exact xa_fgk (ih (by omega) _ _ hX2 (by rw [s1]; exact e1) hn1) (And.intro rfl (And.intro rfl trivial))
set_option maxHeartbeats 4000000 in
theorem cx_hearLetters (E : xa_EV) {L : List Nat} {T : xa_AH} {R : xa_AR} {nh ns : Nat} {pw : Nat → Nat} {S : xa_AH} (hX : RX nh ns nh pw L T R S)  : xa_Ct E mX7_hearLetters [.ref (ci 0 129)] L T R (PR2 nh ns nh pw L R (xa_lp (fun l V => xm_ih nh ns l (S 130 36) V) (pw nh) S)) := by
  refine xa_Ct.of [some (.ref (ci 0 129)), none, none] rfl (Nat.le_of_ble_eq_true rfl) (by simp [Value.category]) rfl ?_
  have n12 := hX.n12
  have n32 := hX.n32
  refine xa_iconst (pc := 0) (v := 0) dX7_hearLetters_0 (by decide) ?_
  refine xa_istore_n (pc := 1) dX7_hearLetters_1 (by decide) ?_
  exact xa_fgk (lx_hl2 E (S 130 36) 0 (Nat.zero_le _) _ _ hX (by rw [hX.k_p0]; rfl) rfl) (And.intro rfl (And.intro rfl trivial))
