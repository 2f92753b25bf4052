theorem ht3_e {h s : Nat} {n : Int32} : ∀ m, m ≤ 32 → ∀ S x y, xa_lp (xm_ht3 h s n) m S x y = if x = 158 ∧ 32 * h ≤ y ∧ y < 32 * h + m ∧ ¬ y = 32 * h + s ∧ S 159 y = n then 0 else S x y
  | 0, _, S, x, y => by rw [xa_lp, if_neg (by omega)]
  | m + 1, hm, S, x, y => by
    have i := ht3_e (h := h) (s := s) (n := n) m (by omega) S
    rw [xa_lp]
    unfold xm_ht3 at i ⊢
    have e9 : ∀ y, xa_lp (fun x S => if x = s ∨ ¬ S 159 (32 * h + x) = n then S else xa_up S 158 (32 * h + x) 0) m S 159 y = S 159 y := fun y => by rw [i, if_neg (by omega)]
    rw [e9]
    by_cases c : m = s ∨ ¬ S 159 (32 * h + m) = n
    · rw [if_pos c, i]
      by_cases g : x = 158 ∧ 32 * h ≤ y ∧ y < 32 * h + m ∧ ¬ y = 32 * h + s ∧ S 159 y = n
      · rw [if_pos g, if_pos ⟨g.1, g.2.1, by omega, g.2.2.2.1, g.2.2.2.2⟩]
      · rw [if_neg g, if_neg]
        rintro ⟨g1, g2, g3, g4, g5⟩
        by_cases e : y = 32 * h + m
        · subst e
          rcases c with c | c
          · exact g4 (by omega)
          · exact c g5
        · exact g ⟨g1, g2, by omega, g4, g5⟩
    · rw [if_neg c, up_S, i]
      by_cases e : x = 158 ∧ y = 32 * h + m
      · rw [if_pos e, if_pos]
        refine ⟨e.1, by omega, by omega, fun w => c (Or.inl (by omega)), ?_⟩
        rw [e.2]; exact Classical.byContradiction (fun w => c (Or.inr w))
      · rw [if_neg e]
        by_cases g : x = 158 ∧ 32 * h ≤ y ∧ y < 32 * h + m ∧ ¬ y = 32 * h + s ∧ S 159 y = n
        · rw [if_pos g, if_pos ⟨g.1, g.2.1, by omega, g.2.2.2.1, g.2.2.2.2⟩]
        · rw [if_neg g, if_neg]
          rintro ⟨g1, g2, g3, g4, g5⟩
          exact g ⟨g1, g2, by omega, g4, g5⟩
theorem htB_y {nh ns k : Nat} {pw : Nat → Nat} {L : List Nat} {T : xa_AH} {R : xa_AR} {U : xa_AH} (hX : RX nh ns k pw L T R U) {h s row y : Nat} {n d t : Int32} (hh : h < nh) (hs : s < ns) (hy : y < ns) (hr : ¬ y = s ∧ ¬ U 158 (32 * h + y) = 0 ∧ U 159 (32 * h + y) = n) (hst : xm_str U y s = true) : xm_htB ns h s row n d t U = xa_up U 130 41 (U 130 41 + 1) := by
  unfold xm_htB
  rw [if_pos (xa_any_yes (i := y) hy (by simp [xm_ht2, hr.1, hr.2.1, hr.2.2, hst]))]
theorem htB_n {nh ns k : Nat} {pw : Nat → Nat} {L : List Nat} {T : xa_AH} {R : xa_AR} {U : xa_AH} (hX : RX nh ns k pw L T R U) {h s row y : Nat} {n d t : Int32} (hh : h < nh) (hs : s < ns) (hy : y < ns) (hr : ¬ y = s ∧ ¬ U 158 (32 * h + y) = 0 ∧ U 159 (32 * h + y) = n) (hst : xm_str U y s = false) : xm_htB ns h s row n d t U = xm_htS h s row n d t (xa_up U 158 (32 * h + y) 0) := by
  have n32 := hX.n32
  have un : ∀ z, z < ns → ¬ U 158 (32 * h + z) = 0 → U 159 (32 * h + z) = n → z = y := fun z hz g1 g2 => hX.ir_ap hh (show z < 32 by omega) y (by omega) g1 hr.2.1 (g2.trans hr.2.2.symm)
  unfold xm_htB
  rw [if_neg]
  · congr 1
    funext a b
    rw [ht3_e ns n32, up_S]
    by_cases e : a = 158 ∧ b = 32 * h + y
    · rw [if_pos e, if_pos ⟨e.1, by omega, by omega, by have := hr.1; omega, by rw [e.2]; exact hr.2.2⟩]
    · rw [if_neg e]
      by_cases g : a = 158 ∧ 32 * h ≤ b ∧ b < 32 * h + ns ∧ ¬ b = 32 * h + s ∧ U 159 b = n
      · rw [if_pos g]
        obtain ⟨g1, g2, g3, g4, g5⟩ := g
        obtain ⟨z, rfl⟩ : ∃ z, b = 32 * h + z := ⟨b - 32 * h, by omega⟩
        by_cases w : U 158 (32 * h + z) = 0
        · rw [g1]; exact w.symm
        · have := un z (by omega) w g5
          exact absurd ⟨g1, by omega⟩ e
      · rw [if_neg g]
  · intro c
    obtain ⟨z, hz, g⟩ := xa_any_iff.mp c
    simp only [xm_ht2, Bool.and_eq_true, decide_eq_true_eq, Bool.not_eq_true', decide_eq_false_iff_not] at g
    have := un z hz g.2.1 g.2.2.1
    rw [this, hst] at g
    exact absurd g.2.2.2 (by decide)
theorem htB_0 {nh ns k : Nat} {pw : Nat → Nat} {L : List Nat} {T : xa_AH} {R : xa_AR} {U : xa_AH} (hX : RX nh ns k pw L T R U) {h s row : Nat} {n d t : Int32} (hh : h < nh) (hs : s < ns) (hno : ∀ x, x < ns → ¬ (¬ x = s ∧ ¬ U 158 (32 * h + x) = 0 ∧ U 159 (32 * h + x) = n)) : xm_htB ns h s row n d t U = xm_htS h s row n d t U := by
  have n32 := hX.n32
  unfold xm_htB
  rw [if_neg]
  · congr 1
    funext a b
    rw [ht3_e ns n32]
    split
    · next g =>
      obtain ⟨g1, g2, g3, g4, g5⟩ := g
      obtain ⟨z, rfl⟩ : ∃ z, b = 32 * h + z := ⟨b - 32 * h, by omega⟩
      rw [g1]
      exact (Classical.byContradiction fun w => hno z (by omega) ⟨by omega, fun q => w q.symm, g5⟩)
    · rfl
  · intro c
    obtain ⟨z, hz, g⟩ := xa_any_iff.mp c
    simp only [xm_ht2, Bool.and_eq_true, decide_eq_true_eq, Bool.not_eq_true', decide_eq_false_iff_not] at g
    exact hno z hz ⟨g.1, g.2.1, g.2.2.1⟩
theorem lc_q {q d : Nat} (hl : lcell q ∧ q % 16 = 0) (hd : d < 16) : lcell (q + d) := by
  unfold lcell at *; omega
theorem rest_in2 {t d : Int32} (ht : vp_in t 30001) (hd : vp_in d 201) : (t + 1 + d).toInt ≤ t.toInt + 201 := by
  have l1 : xc t < 30001 := xa_in_lt ht
  have l2 : xc d < 201 := xa_in_lt hd
  have e1 : t = nI (xc t) := xa_in_eq ht
  have e2 : d = nI (xc d) := xa_in_eq hd
  rw [e1, e2, nI_1, nI_add, nI_toInt (by omega), nI_toInt (by omega)]; omega
theorem up_l {T : xa_AH} {h r j a : Nat} {v : Int32} (hr : r < 256) (n : r < 16 ∨ 80 ≤ r) (ha : lcell a) : xa_up T (ci h r) j v a = T a := up_o (fun e => nlc (h := h) hr n (e ▸ ha))
theorem rest_in {t d : Int32} (ht : vp_in t 30001) (hd : vp_in d 201) : vp_in (t + 1 + d) 30300 := by
  have l1 : xc t < 30001 := xa_in_lt ht
  have l2 : xc d < 201 := xa_in_lt hd
  have e1 : t = nI (xc t) := xa_in_eq ht
  have e2 : d = nI (xc d) := xa_in_eq hd
  rw [e1, e2, nI_1, nI_add]; exact vp_in_nI (by omega) (by decide)
set_option maxHeartbeats 4000000 in
theorem lx_ht141 (E : xa_EV) {L : List Nat} {T0 : xa_AH} {R : xa_AR} {nh ns k : Nat} {pw : Nat → Nat} {h s row q : Nat} (hh : h < nh) (hs : s < ns) (hq : cs_l L R q) (hlq : lcell q ∧ q % 16 = 0) (n d t : Int32) {T U : xa_AH} (hX : RX nh ns k pw L T R U) (hnow : U 130 36 = t) (hm : T (q + 13) s = U 188 row) (hfl : fl T0 T) (hn : 1 ≤ n ∧ n ≤ 250) (he : vp_in (t + 1 + d) 30300 ∧ (t + 1 + d).toInt ≤ t.toInt + 201) (hap : ∀ x, x < 32 → ¬ x = s → ¬ U 158 (32 * h + x) = 0 → ¬ U 159 (32 * h + x) = n) : xa_W E mX7_hearTelling (xa_Z E mX7_hearTelling L (PF nh ns k pw L T0 R (xm_htS h s row n d t U))) 0 0 141 [some (.ref (ci 0 129)), some (.ref (ci h 0)), some (.ref (ci s 128)), some (.ref q), some (.int (nI s)), some (.int n), some (.int d), none] [] L T R := by
  have n12 := hX.n12
  have n32 := hX.n32
  refine xa_aload_n (pc := 141) dX7_hearTelling_141 rfl ?_
  refine xa_getA (pc := 142) 3 4 (ci h 1) lfX7_134 dX7_hearTelling_142 ((hX.hS hh).1 0 (by decide)) (kd_0 _) rfl ((hX.hS hh).2 (0, 4, 1) (by decide)) ?_
  refine xa_iload (pc := 145) dX7_hearTelling_145 rfl ?_
  refine xa_iload (pc := 147) dX7_hearTelling_147 rfl ?_
  refine xa_aload_n (pc := 149) dX7_hearTelling_149 rfl ?_
  refine xa_getA (pc := 150) 4 12 (q + 13) lfX7_455 dX7_hearTelling_150 (hq).1 (hq).2.1 rfl (cl_r12 hq) ?_
  refine xa_iload (pc := 153) dX7_hearTelling_153 rfl ?_
  refine xa_ialdC (pc := 155) s (U 188 row) dX7_hearTelling_155 (cl_m12 hq) (cl_k12 hq) (cl_n12 hq) rfl (by omega) (by decide) hm ?_
  refine xa_iload (pc := 156) dX7_hearTelling_156 rfl ?_
  refine xa_aload_n (pc := 158) dX7_hearTelling_158 rfl ?_
  refine xa_getIv (pc := 159) 7 4 t lfX7_62 dX7_hearTelling_159 hX.c_m129 (kd_129 _) rfl (hX.g_now.trans hnow) ?_
  refine xa_iconst (pc := 162) (v := 1) dX7_hearTelling_162 (by decide) ?_
  refine xa_iadd (pc := 163) dX7_hearTelling_163 ?_
  refine xa_iload (pc := 164) dX7_hearTelling_164 rfl ?_
  refine xa_iadd (pc := 166) dX7_hearTelling_166 ?_
  refine xa_callV (pc := 167) ((hX.hS hh).1 1 (by decide)) (kd_1 _) rfl lcX7_458 dX7_hearTelling_167 (cx_put E (hX.hS hh) (s := s) rfl (by omega) _ _ _ _) rfl rfl (by decide) (Nat.le_of_ble_eq_true rfl) (by decide) ?_
  rintro _ _ _ ⟨rfl, rfl, rfl⟩
  exact xa_vret dX7_hearTelling_170 rfl ⟨rfl, rfl, rx_recput hX hh hs hn he.1 (by rw [hnow]; exact he.2) hap, fl_up (fl_up (fl_up (fl_up (fl_up hfl (by decide) (by decide)) (by decide) (by decide)) (by decide) (by decide)) (by decide) (by decide)) (by decide) (by decide)⟩
set_option maxHeartbeats 4000000 in
theorem lx_ht85 (E : xa_EV) {L : List Nat} {T0 : xa_AH} {R : xa_AR} {nh ns k : Nat} {pw : Nat → Nat} {h s row q : Nat} (hh : h < nh) (hs : s < ns) (hq : cs_l L R q) (hlq : lcell q ∧ q % 16 = 0) (n d t : Int32) {T U : xa_AH} (hX : RX nh ns k pw L T R U) (hnow : U 130 36 = t) (hm : T (q + 13) s = U 188 row) (hfl : fl T0 T) (hn : 1 ≤ n ∧ n ≤ 250) (he : vp_in (t + 1 + d) 30300 ∧ (t + 1 + d).toInt ≤ t.toInt + 201)  : xa_W E mX7_hearTelling (xa_Z E mX7_hearTelling L (PF nh ns k pw L T0 R (xm_htB ns h s row n d t U))) 0 0 85 [some (.ref (ci 0 129)), some (.ref (ci h 0)), some (.ref (ci s 128)), some (.ref q), some (.int (nI s)), some (.int n), some (.int d), none] [] L T R := by
  have n12 := hX.n12
  have n32 := hX.n32
  refine xa_aload_n (pc := 85) dX7_hearTelling_85 rfl ?_
  refine xa_aload_n (pc := 86) dX7_hearTelling_86 rfl ?_
  refine xa_getA (pc := 87) 3 4 (ci h 1) lfX7_134 dX7_hearTelling_87 ((hX.hS hh).1 0 (by decide)) (kd_0 _) rfl ((hX.hS hh).2 (0, 4, 1) (by decide)) ?_
  refine xa_aload_n (pc := 90) dX7_hearTelling_90 rfl ?_
  refine xa_iload (pc := 91) dX7_hearTelling_91 rfl ?_
  refine xa_callV (pc := 93) hX.c_m129 (kd_129 _) rfl lcX7_446 dX7_hearTelling_93 (cx_otherRecorded E hX hh hs _) rfl rfl (by decide) (Nat.le_of_ble_eq_true rfl) (by decide) ?_
  rintro _ _ _ ⟨⟨y, hy, hr, rfl⟩ | ⟨hno, rfl⟩, rfl, rfl⟩
  · refine xa_astore (pc := 96) dX7_hearTelling_96 (by decide) ?_
    refine xa_aload (pc := 98) dX7_hearTelling_98 rfl ?_
    refine xa_ifnull_ref (pc := 100) dX7_hearTelling_100 ?_
    refine xa_aload_n (pc := 103) dX7_hearTelling_103 rfl ?_
    refine xa_aload (pc := 104) dX7_hearTelling_104 rfl ?_
    refine xa_aload_n (pc := 106) dX7_hearTelling_106 rfl ?_
    refine xa_callV (pc := 107) hX.c_m129 (kd_129 _) rfl lcX7_450 dX7_hearTelling_107 (cx_isStronger E hX hy hs) rfl rfl (by decide) (Nat.le_of_ble_eq_true rfl) (by decide) ?_
    rintro _ _ _ ⟨rfl, rfl, rfl⟩
    refine xa_if_eq (pc := 110) 124 dX7_hearTelling_110 (by decide) (fun h110 => ?_) (fun h110 => ?_)
    · have h110 := xa_b_0.mp h110
      refine xa_aload (pc := 124) dX7_hearTelling_124 rfl ?_
      refine xa_ifnull_ref (pc := 126) dX7_hearTelling_126 ?_
      refine xa_aload_n (pc := 129) dX7_hearTelling_129 rfl ?_
      refine xa_getA (pc := 130) 3 4 (ci h 1) lfX7_134 dX7_hearTelling_130 ((hX.hS hh).1 0 (by decide)) (kd_0 _) rfl ((hX.hS hh).2 (0, 4, 1) (by decide)) ?_
      refine xa_aload (pc := 133) dX7_hearTelling_133 rfl ?_
      refine xa_getIv (pc := 135) 5 0 _ lfX7_264 dX7_hearTelling_135 (hX.sM hy) (kd_128 _) rfl (hX.s_number hy) ?_
      refine xa_callV (pc := 138) ((hX.hS hh).1 1 (by decide)) (kd_1 _) rfl lcX7_454 dX7_hearTelling_138 (cx_remove E (hX.hS hh) (s := y) rfl (by omega)) rfl rfl (by decide) (Nat.le_of_ble_eq_true rfl) (by decide) ?_
      rintro _ _ _ ⟨rfl, rfl, rfl⟩
      rw [htB_n hX hh hs hy hr h110]
      refine xa_fgk (lx_ht141 E (row := row) hh hs hq hlq n d t (rx_recrem hX hh (by omega)) hnow ?_ (fl_up hfl (by decide) (by decide)) hn he ?_) (And.intro rfl (And.intro rfl (And.intro rfl (And.intro rfl (And.intro rfl (And.intro rfl (And.intro rfl trivial)))))))
      · rw [up_l (by decide) (by decide) (lc_q hlq (by decide))]; exact hm
      · intro z hz z1 z2 z3
        rw [up_S] at z2
        rw [up_o (by decide)] at z3
        by_cases e : z = y
        · subst e; simp at z2
        · have e2 : ¬ (158 = 158 ∧ 32 * h + z = 32 * h + y) := by omega
          rw [if_neg e2] at z2
          exact e (hX.ir_ap hh hz y (by omega) z2 hr.2.1 (z3.trans hr.2.2.symm))
    · have h110 := xa_b_n0.mp h110
      refine xa_aload_n (pc := 113) dX7_hearTelling_113 rfl ?_
      refine xa_dup (pc := 114) dX7_hearTelling_114 rfl ?_
      refine xa_getIv (pc := 115) 7 10 _ lfX7_238 dX7_hearTelling_115 hX.c_m129 (kd_129 _) rfl hX.g_leftOut ?_
      refine xa_iconst (pc := 118) (v := 1) dX7_hearTelling_118 (by decide) ?_
      refine xa_iadd (pc := 119) dX7_hearTelling_119 ?_
      refine xa_putI (pc := 120) 7 10 lpX7_238 dX7_hearTelling_120 hX.c_m129 (kd_129 _) rfl rfl rfl ?_
      rw [htB_y hX hh hs hy hr h110]
      exact xa_vret dX7_hearTelling_123 rfl ⟨rfl, rfl, rx_cleftOut hX, fl_up hfl (by decide) (by decide)⟩
  · refine xa_astoreN (pc := 96) dX7_hearTelling_96 (by decide) ?_
    refine xa_aloadN (pc := 98) dX7_hearTelling_98 rfl ?_
    refine xa_ifnull_null (pc := 100) 124 dX7_hearTelling_100 (by decide) ?_
    refine xa_aloadN (pc := 124) dX7_hearTelling_124 rfl ?_
    refine xa_ifnull_null (pc := 126) 141 dX7_hearTelling_126 (by decide) ?_
    rw [htB_0 hX hh hs hno]
    refine xa_fgk (lx_ht141 E (row := row) hh hs hq hlq n d t hX hnow hm hfl hn he ?_) (And.intro rfl (And.intro rfl (And.intro rfl (And.intro rfl (And.intro rfl (And.intro rfl (And.intro rfl trivial)))))))
    intro z hz z1 z2 z3
    have zn := (hX.ir_lt hh hz z2).1
    exact hno z zn ⟨z1, z2, z3⟩
set_option maxHeartbeats 4000000 in
theorem lx_ht76 (E : xa_EV) {L : List Nat} {T0 : xa_AH} {R : xa_AR} {nh ns k : Nat} {pw : Nat → Nat} {h s row q : Nat} (hh : h < nh) (hs : s < ns) (hq : cs_l L R q) (hlq : lcell q ∧ q % 16 = 0) (n d t : Int32) {T U : xa_AH} (hX : RX nh ns k pw L T R U) (hnow : U 130 36 = t) (hm : T (q + 13) s = U 188 row) (hfl : fl T0 T) (hn : 1 ≤ n ∧ n ≤ 250) (he : vp_in (t + 1 + d) 30300 ∧ (t + 1 + d).toInt ≤ t.toInt + 201)  : xa_W E mX7_hearTelling (xa_Z E mX7_hearTelling L (PF nh ns k pw L T0 R (xm_htC ns h s row n d t U))) 0 0 76 [some (.ref (ci 0 129)), some (.ref (ci h 0)), some (.ref (ci s 128)), some (.ref q), some (.int (nI s)), some (.int n), some (.int d), none] [] L T R := by
  have n12 := hX.n12
  have n32 := hX.n32
  refine xa_aload_n (pc := 76) dX7_hearTelling_76 rfl ?_
  refine xa_getA (pc := 77) 5 1 (ci (xc (U 146 s)) 0) lfX7_106 dX7_hearTelling_77 (hX.sM hs) (kd_128 _) rfl (hX.s_host hs) ?_
  refine xa_aload_n (pc := 80) dX7_hearTelling_80 rfl ?_
  refine xa_acmpC_ne (pc := 81) 85 (x := (ci (xc (U 146 s)) 0)) (y := (ci h 0)) dX7_hearTelling_81 (by decide) ((hX.hS (hX.hO hs)).1 0 (by decide)) ((hX.hS hh).1 0 (by decide)) (fun h81 => ?_) (fun h81 => ?_)
  · have h81 : ¬ ((xc (U 146 s)) = h) := fun q => h81 (ci_i.mpr q)
    rw [show xm_htC ns h s row n d t U = _ from if_neg (fun e => h81 ((hX.own hs (by omega)).mp e))]
    exact xa_fgk (lx_ht85 E (row := row) hh hs hq hlq n d t hX hnow hm hfl hn he) (And.intro rfl (And.intro rfl (And.intro rfl (And.intro rfl (And.intro rfl (And.intro rfl (And.intro rfl trivial)))))))
  · have h81 := ci_i.mp h81
    rw [show xm_htC ns h s row n d t U = _ from if_pos ((hX.own hs (by omega)).mpr h81)]
    exact xa_vret dX7_hearTelling_84 rfl ⟨rfl, rfl, hX, hfl⟩
set_option maxHeartbeats 4000000 in
theorem lx_ht56 (E : xa_EV) {L : List Nat} {T0 : xa_AH} {R : xa_AR} {nh ns k : Nat} {pw : Nat → Nat} {h s row q : Nat} (hh : h < nh) (hs : s < ns) (hq : cs_l L R q) (hlq : lcell q ∧ q % 16 = 0) (n d t : Int32) {T U : xa_AH} (hX : RX nh ns k pw L T R U) (hnow : U 130 36 = t) (hm : T (q + 13) s = U 188 row) (hfl : fl T0 T) (hn : 1 ≤ n ∧ n ≤ 250) (he : vp_in (t + 1 + d) 30300 ∧ (t + 1 + d).toInt ≤ t.toInt + 201)  : xa_W E mX7_hearTelling (xa_Z E mX7_hearTelling L (PF nh ns k pw L T0 R (xm_htD ns h s row n d t U))) 0 0 56 [some (.ref (ci 0 129)), some (.ref (ci h 0)), some (.ref (ci s 128)), some (.ref q), some (.int (nI s)), some (.int n), some (.int d), none] [] L T R := by
  have n12 := hX.n12
  have n32 := hX.n32
  refine xa_iconst (pc := 56) (v := 2) dX7_hearTelling_56 (by decide) ?_
  refine xa_iload (pc := 57) dX7_hearTelling_57 rfl ?_
  refine xa_imul (pc := 59) dX7_hearTelling_59 ?_
  refine xa_aload_n (pc := 60) dX7_hearTelling_60 rfl ?_
  refine xa_getIv (pc := 61) 5 3 _ lfX7_335 dX7_hearTelling_61 (hX.sM hs) (kd_128 _) rfl (hX.s_life hs) ?_
  refine xa_icmp_lt (pc := 64) 76 dX7_hearTelling_64 (by decide) (fun h64 => ?_) (fun h64 => ?_)
  · rw [show xm_htD ns h s row n d t U = xm_htC ns h s row n d t U from by unfold xm_htD; rw [if_pos h64]]
    exact xa_fgk (lx_ht76 E (row := row) hh hs hq hlq n d t hX hnow hm hfl hn he) (And.intro rfl (And.intro rfl (And.intro rfl (And.intro rfl (And.intro rfl (And.intro rfl (And.intro rfl trivial)))))))
  · refine xa_aload_n (pc := 67) dX7_hearTelling_67 rfl ?_
    refine xa_getA (pc := 68) 3 6 (ci h 9) lfX7_143 dX7_hearTelling_68 ((hX.hS hh).1 0 (by decide)) (kd_0 _) rfl ((hX.hS hh).2 (0, 6, 9) (by decide)) ?_
    refine xa_iload (pc := 71) dX7_hearTelling_71 rfl ?_
    refine xa_callV (pc := 73) ((hX.hS hh).1 9 (by decide)) (kd_9 _) rfl lcX7_330 dX7_hearTelling_73 (cx_nremove E (hX.hS hh) (s := s) rfl (by omega)) rfl rfl (by decide) (Nat.le_of_ble_eq_true rfl) (by decide) ?_
    rintro _ _ _ ⟨rfl, rfl, rfl⟩
    rw [show xm_htD ns h s row n d t U = xm_htC ns h s row n d t (xa_up U 163 (32 * h + s) (-1)) from by unfold xm_htD; rw [if_neg h64]]
    exact xa_fgk (lx_ht76 E (row := row) hh hs hq hlq n d t (rx_ansrem hX hh (by omega)) hnow (by rw [up_l (by decide) (by decide) (lc_q hlq (by decide))]; exact hm) (fl_up hfl (by decide) (by decide)) hn he) (And.intro rfl (And.intro rfl (And.intro rfl (And.intro rfl (And.intro rfl (And.intro rfl (And.intro rfl trivial)))))))
theorem ht1_a {ns h s x a : Nat} {n t : Int32} {S : xa_AH} (ha : 164 ≤ a) : xm_ht1 ns h s n t x S a = S a := by
  unfold xm_ht1; split
  · rfl
  · split
    · exact yld_a (by omega) (by omega) (by omega) (by omega)
    · exact due_a (by omega)
theorem lp_a {f : Nat → xa_AH → xa_AH} {a : Nat} (h : ∀ i S, f i S a = S a) : ∀ n S, xa_lp f n S a = S a
  | 0, S => rfl
  | n + 1, S => by rw [xa_lp, h, lp_a h n S]
theorem lp_c {f : Nat → xa_AH → xa_AH} {a b : Nat} (h : ∀ i S, f i S a b = S a b) : ∀ n S, xa_lp f n S a b = S a b
  | 0, S => rfl
  | n + 1, S => by rw [xa_lp, h, lp_c h n S]
theorem ht1_36 {ns h s x : Nat} {n t : Int32} {S : xa_AH} : xm_ht1 ns h s n t x S 130 36 = S 130 36 := by
  unfold xm_ht1; split
  · rfl
  · split
    · exact yld_36
    · rw [due_a (by decide)]
theorem nm_in {nh ns k : Nat} {pw : Nat → Nat} {L : List Nat} {T : xa_AH} {R : xa_AR} {S : xa_AH} (hX : RX nh ns k pw L T R S) {s : Nat} (hs : s < ns) {n : Int32} (h : xm_in n (S 133 (xc (S 146 s))) (S 134 (xc (S 146 s))) = true) : 1 ≤ n ∧ n ≤ 250 := by
  have h1 := xm_in_t.mp h
  have h2 := hX.ih_nm (hX.hO hs)
  simp only [fa_le] at *
  omega
set_option maxHeartbeats 4000000 in
theorem cx_hearTelling (E : xa_EV) {L : List Nat} {T : xa_AH} {R : xa_AR} {nh ns k : Nat} {pw : Nat → Nat} {S : xa_AH} (hX : RX nh ns k pw L T R S) {h s row q : Nat} (hh : h < nh) (ha : S 136 h = 2) (hs : s < ns) (hq : cs_l L R q) (hlq : lcell q ∧ q % 16 = 0) (hT1 : T (q + 12) s = S 187 row) (hT2 : T (q + 13) s = S 188 row) (hT3 : T (q + 14) s = S 189 row) (hd : vp_in (S 189 row) 201)  : xa_Ct E mX7_hearTelling [.ref (ci 0 129), .ref (ci h 0), .ref (ci s 128), .ref q] L T R (PF nh ns k pw L T R (xm_ht ns h s row (S 130 36) S)) := by
  refine xa_Ct.of [some (.ref (ci 0 129)), some (.ref (ci h 0)), some (.ref (ci s 128)), some (.ref q), none, none, none, none] rfl (Nat.le_of_ble_eq_true rfl) (by simp [Value.category]) rfl ?_
  have n12 := hX.n12
  have n32 := hX.n32
  refine xa_aload_n (pc := 0) dX7_hearTelling_0 rfl ?_
  refine xa_getIv (pc := 1) 5 0 _ lfX7_264 dX7_hearTelling_1 (hX.sM hs) (kd_128 _) rfl (hX.s_number hs) ?_
  refine xa_istore (pc := 4) dX7_hearTelling_4 (by decide) ?_
  refine xa_aload_n (pc := 6) dX7_hearTelling_6 rfl ?_
  refine xa_getA (pc := 7) 4 11 (q + 12) lfX7_440 dX7_hearTelling_7 (hq).1 (hq).2.1 rfl (cl_r11 hq) ?_
  refine xa_iload (pc := 10) dX7_hearTelling_10 rfl ?_
  refine xa_ialdC (pc := 12) s _ dX7_hearTelling_12 (cl_m11 hq) (cl_k11 hq) (cl_n11 hq) rfl (by omega) (by decide) hT1 ?_
  refine xa_istore (pc := 13) dX7_hearTelling_13 (by decide) ?_
  refine xa_aload_n (pc := 15) dX7_hearTelling_15 rfl ?_
  refine xa_getA (pc := 16) 4 13 (q + 14) lfX7_443 dX7_hearTelling_16 (hq).1 (hq).2.1 rfl (cl_r13 hq) ?_
  refine xa_iload (pc := 19) dX7_hearTelling_19 rfl ?_
  refine xa_ialdC (pc := 21) s _ dX7_hearTelling_21 (cl_m13 hq) (cl_k13 hq) (cl_n13 hq) rfl (by omega) (by decide) hT3 ?_
  refine xa_istore (pc := 22) dX7_hearTelling_22 (by decide) ?_
  refine xa_aload_n (pc := 24) dX7_hearTelling_24 rfl ?_
  refine xa_getA (pc := 25) 5 1 (ci (xc (S 146 s)) 0) lfX7_106 dX7_hearTelling_25 (hX.sM hs) (kd_128 _) rfl (hX.s_host hs) ?_
  refine xa_iload (pc := 28) dX7_hearTelling_28 rfl ?_
  refine xa_callV (pc := 30) ((hX.hS (hX.hO hs)).1 0 (by decide)) (kd_0 _) rfl lcX7_39 dX7_hearTelling_30 (cx_hasForName E hX (hX.hO hs) _) rfl rfl (by decide) (Nat.le_of_ble_eq_true rfl) (by decide) ?_
  rintro _ _ _ ⟨rfl, rfl, rfl⟩
  refine xa_if_ne (pc := 33) 47 dX7_hearTelling_33 (by decide) (fun h33 => ?_) (fun h33 => ?_)
  · have h33 := xa_b_n0.mp h33
    refine xa_aload_n (pc := 47) dX7_hearTelling_47 rfl ?_
    refine xa_aload_n (pc := 48) dX7_hearTelling_48 rfl ?_
    refine xa_aload_n (pc := 49) dX7_hearTelling_49 rfl ?_
    refine xa_iload (pc := 50) dX7_hearTelling_50 rfl ?_
    refine xa_iconst (pc := 52) (v := 1) dX7_hearTelling_52 (by decide) ?_
    refine xa_callV (pc := 53) hX.c_m129 (kd_129 _) rfl lcX7_406 dX7_hearTelling_53 (cx_contend1 E hX hh ha hs _) rfl rfl (by decide) (Nat.le_of_ble_eq_true rfl) (by decide) ?_
    rintro _ _ _ ⟨rfl, rfl, hX2, hfl2⟩
    rw [show xm_ht ns h s row (S 130 36) S = _ from if_pos h33]
    exact xa_fgk (lx_ht56 E (row := row) hh hs hq hlq _ _ _ hX2 (lp_c (fun i S => ht1_36) ns S) (by rw [hfl2 _ (lc_q hlq (by decide)), lp_a (fun i S => ht1_a (by decide)) ns S]; exact hT2) hfl2 (nm_in hX hs h33) ⟨rest_in hX.ig_t hd, rest_in2 hX.ig_t hd⟩) (And.intro rfl (And.intro rfl (And.intro rfl (And.intro rfl (And.intro rfl (And.intro rfl (And.intro rfl trivial)))))))
  · have h33 := xa_b_0.mp h33
    refine xa_aload_n (pc := 36) dX7_hearTelling_36 rfl ?_
    refine xa_dup (pc := 37) dX7_hearTelling_37 rfl ?_
    refine xa_getIv (pc := 38) 7 9 _ lfX7_235 dX7_hearTelling_38 hX.c_m129 (kd_129 _) rfl hX.g_lies ?_
    refine xa_iconst (pc := 41) (v := 1) dX7_hearTelling_41 (by decide) ?_
    refine xa_iadd (pc := 42) dX7_hearTelling_42 ?_
    refine xa_putI (pc := 43) 7 9 lpX7_235 dX7_hearTelling_43 hX.c_m129 (kd_129 _) rfl rfl rfl ?_
    rw [show xm_ht ns h s row (S 130 36) S = _ from if_neg (by rw [h33]; decide)]
    exact xa_vret dX7_hearTelling_46 rfl ⟨rfl, rfl, rx_clies hX, fl_up fl_rf (by decide) (by decide)⟩
