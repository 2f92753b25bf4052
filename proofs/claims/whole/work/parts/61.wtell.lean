set_option maxHeartbeats 4000000 in
theorem lx_was (E : xa_EV) {L : List Nat} {R : xa_AR} {nh ns h : Nat} {pw : Nat → Nat} {nb : Int32} (hh : h < nh) (t : Int32) {S : xa_AH} : ∀ x, x ≤ 16 → ∀ T U, WX nh ns h pw L T R U nb → U = xa_lp (xm_as1 ns h (pw h) t) x S → nb = 1 <<< (U 131 h &&& 31) → U 130 36 = t → xa_W E mX7_writeAsks (xa_Z E mX7_writeAsks L (PWX nh ns h pw L R (xa_lp (xm_as1 ns h (pw h) t) 16 S) nb)) 0 0 13 [some (.ref (ci 0 129)), some (.ref (ci h 0)), some (.int (nI x))] [] L T R := by
  refine xa_dn (fun x hx ih => ?_)
  intro T U hW eU hnb hnow
  have hX := hW.1
  have n12 := hX.n12
  have n32 := hX.n32
  refine xa_iload_n (pc := 13) dX7_writeAsks_13 rfl ?_
  refine xa_bipush (pc := 14) (v := 16) dX7_writeAsks_14 (by decide) ?_
  refine xa_icmpN_ge (pc := 16) 72 x 16 dX7_writeAsks_16 (by decide) rfl rfl (by omega) (by omega) (fun h16 => ?_) (fun h16 => ?_)
  · have g16 : ¬ (x < 16) := by omega
    have ex : x = 16 := by omega
    subst ex
    exact xa_vret dX7_writeAsks_72 rfl ⟨rfl, rfl, by rw [← eU]; exact hW⟩
  · refine xa_aload_n (pc := 19) dX7_writeAsks_19 rfl ?_
    refine xa_getA (pc := 20) 3 5 (ci h 6) lfX7_71 dX7_writeAsks_20 ((hX.hS hh).1 0 (by decide)) (kd_0 _) rfl ((hX.hS hh).2 (0, 5, 6) (by decide)) ?_
    refine xa_iload_n (pc := 23) dX7_writeAsks_23 rfl ?_
    refine xa_aload_n (pc := 24) dX7_writeAsks_24 rfl ?_
    refine xa_getIv (pc := 25) 7 4 _ lfX7_62 dX7_writeAsks_25 hX.c_m129 (kd_129 _) rfl hX.g_now ?_
    refine xa_callV (pc := 28) ((hX.hS hh).1 6 (by decide)) (kd_6 _) rfl lcX7_301 dX7_writeAsks_28 (rq_aisDue E hX hh (k1 := x) rfl (by omega) _) rfl rfl (by decide) (Nat.le_of_ble_eq_true rfl) (by decide) ?_
    rintro _ _ _ ⟨rfl, rfl, rfl⟩
    refine xa_if_eq (pc := 31) 66 dX7_writeAsks_31 (by decide) (fun h31 => ?_) (fun h31 => ?_)
    · have h31 := xa_b_0.mp h31
      refine xa_iinc (pc := 66) (v := nI (x + 1)) dX7_writeAsks_66 rfl (by decide) (nI_1 _) ?_
      refine xa_goto (pc := 69) (tgt := 13) dX7_writeAsks_69 (by decide) ?_
      exact xa_fgk (ih (by omega) _ _ hW (by rw [xa_lp, ← eU, xm_as1, if_pos (by
        by_cases g : U 164 (16 * h + x) = 0
        · exact Or.inl g
        · right; intro q; rw [← hnow] at q; simp [g] at h31; exact absurd h31 (Int32.not_lt.mpr q))]) hnb hnow) (And.intro rfl (And.intro rfl (And.intro rfl trivial)))
    · have h31 := xa_b_n0.mp h31
      refine xa_aload_n (pc := 34) dX7_writeAsks_34 rfl ?_
      refine xa_getA (pc := 35) 3 15 (lt R h) lfX7_280 dX7_writeAsks_35 ((hX.hS hh).1 0 (by decide)) (kd_0 _) rfl (hX.l_rl hh) ?_
      refine xa_iload_n (pc := 38) dX7_writeAsks_38 rfl ?_
      refine xa_aload_n (pc := 39) dX7_writeAsks_39 rfl ?_
      refine xa_getA (pc := 40) 3 5 (ci h 6) lfX7_71 dX7_writeAsks_40 ((hX.hS hh).1 0 (by decide)) (kd_0 _) rfl ((hX.hS hh).2 (0, 5, 6) (by decide)) ?_
      refine xa_getA (pc := 43) 1 0 (ci h 7) lfX7_305 dX7_writeAsks_43 ((hX.hS hh).1 6 (by decide)) (kd_6 _) rfl ((hX.hS hh).2 (6, 0, 7) (by decide)) ?_
      refine xa_iload_n (pc := 46) dX7_writeAsks_46 rfl ?_
      refine xa_ialdC (pc := 47) x _ dX7_writeAsks_47 ((hX.hS hh).1 7 (by decide)) (kd_7 _) (ln_7 _) rfl (by omega) (by decide) (hX.a_marks hh (by omega)) ?_
      refine xa_aload_n (pc := 48) dX7_writeAsks_48 rfl ?_
      refine xa_aload_n (pc := 49) dX7_writeAsks_49 rfl ?_
      refine xa_iload_n (pc := 50) dX7_writeAsks_50 rfl ?_
      refine xa_callV (pc := 51) hX.c_m129 (kd_129 _) rfl lcX7_306 dX7_writeAsks_51 (cx_knownTo E hX hh _) rfl rfl (by decide) (Nat.le_of_ble_eq_true rfl) (by decide) ?_
      rintro _ _ _ ⟨rfl, rfl, rfl⟩
      refine xa_iconst (pc := 54) (v := 0) dX7_writeAsks_54 (by decide) ?_
      refine xa_callV (pc := 55) ((hX.l_cl hh)).1 ((hX.l_cl hh)).2.1 rfl lcX7_310 dX7_writeAsks_55 (cx_addAsk E (hX.l_cl hh) (k := x) rfl (by omega) _ _ _) rfl rfl (by decide) (Nat.le_of_ble_eq_true rfl) (by decide) ?_
      rintro _ _ _ ⟨rfl, rfl, rfl⟩
      refine xa_aload_n (pc := 58) dX7_writeAsks_58 rfl ?_
      refine xa_getA (pc := 59) 3 5 (ci h 6) lfX7_71 dX7_writeAsks_59 ((hX.hS hh).1 0 (by decide)) (kd_0 _) rfl ((hX.hS hh).2 (0, 5, 6) (by decide)) ?_
      refine xa_iload_n (pc := 62) dX7_writeAsks_62 rfl ?_
      refine xa_callV (pc := 63) ((hX.hS hh).1 6 (by decide)) (kd_6 _) rfl lcX7_316 dX7_writeAsks_63 (cx_aremove E (hX.hS hh) (k := x) rfl (by omega)) rfl rfl (by decide) (Nat.le_of_ble_eq_true rfl) (by decide) ?_
      rintro _ _ _ ⟨rfl, rfl, rfl⟩
      refine xa_iinc (pc := 66) (v := nI (x + 1)) dX7_writeAsks_66 rfl (by decide) (nI_1 _) ?_
      refine xa_goto (pc := 69) (tgt := 13) dX7_writeAsks_69 (by decide) ?_
      have w1 := addAsk_cur hW hh (show x < 16 by omega) (m := U 165 (16 * h + x)) (kn := xm_kn ns U h (nI x) (U 130 36)) (b := 0)
      have r2 := rx_askrem w1.1 (k1 := x) hh (by omega)
      have w2 := w1.base hh r2 (fl_up fl_rf (by decide) (by decide)) (fun a ha => up_o (by omega))
      have b6 : lx_addAsk T (lt R h) x (U 165 (16 * h + x)) (xm_kn ns U h (nI x) (U 130 36)) 0 (ci h 6) = T (ci h 6) := lx_addAsk_o (lc_out (h := h) (lat_lt hX hh) (nlc (by decide) (by decide)))
      rw [zor] at w2
      have hd : ¬ U 164 (16 * h + x) = 0 ∧ ¬ U 130 36 < U 166 (16 * h + x) := by simpa using h31
      exact xa_fgk (ih (by omega) _ _ w2 (by rw [xa_lp, ← eU, xm_as1, if_neg (fun g => g.elim (fun g => hd.1 g) (fun g => g (by rw [← hnow]; exact Int32.not_lt.mp hd.2))), up_comm (a := 182) (b := 164) (by decide), up_comm (a := 181) (b := 164) (by decide), up_comm (a := 180) (b := 164) (by decide), up_comm (a := 179) (b := 164) (by decide), hnb, hnow]) hnb hnow) (And.intro rfl (And.intro rfl (And.intro rfl trivial)))
set_option maxHeartbeats 4000000 in
theorem cx_writeAsks (E : xa_EV) {L : List Nat} {T : xa_AH} {R : xa_AR} {nh ns h : Nat} {pw : Nat → Nat} {S : xa_AH} {nb : Int32} (hW : WX nh ns h pw L T R S nb) (hh : h < nh) (hnb : nb = 1 <<< (S 131 h &&& 31))  : xa_Ct E mX7_writeAsks [.ref (ci 0 129), .ref (ci h 0)] L T R (PWX nh ns h pw L R (xm_as ns h (pw h) (S 130 36) S) nb) := by
  refine xa_Ct.of [some (.ref (ci 0 129)), some (.ref (ci h 0)), none] rfl (Nat.le_of_ble_eq_true rfl) (by simp [Value.category]) rfl ?_
  have hX := hW.1
  have n12 := hX.n12
  have n32 := hX.n32
  refine xa_aload_n (pc := 0) dX7_writeAsks_0 rfl ?_
  refine xa_getA (pc := 1) 3 5 (ci h 6) lfX7_71 dX7_writeAsks_1 ((hX.hS hh).1 0 (by decide)) (kd_0 _) rfl ((hX.hS hh).2 (0, 5, 6) (by decide)) ?_
  refine xa_callV (pc := 4) ((hX.hS hh).1 6 (by decide)) (kd_6 _) rfl lcX7_123 dX7_writeAsks_4 (rq_aempty E hX hh) rfl rfl (by decide) (Nat.le_of_ble_eq_true rfl) (by decide) ?_
  rintro _ _ _ ⟨rfl, rfl, rfl⟩
  refine xa_if_eq (pc := 7) 11 dX7_writeAsks_7 (by decide) (fun h7 => ?_) (fun h7 => ?_)
  · have h7 := xa_b_0.mp h7
    refine xa_iconst (pc := 11) (v := 0) dX7_writeAsks_11 (by decide) ?_
    refine xa_istore_n (pc := 12) dX7_writeAsks_12 (by decide) ?_
    exact xa_fgk (lx_was E hh (S 130 36) 0 (Nat.zero_le _) _ _ hW rfl hnb rfl) (And.intro rfl (And.intro rfl (And.intro rfl trivial)))
  · have h7 := xa_b_n0.mp h7
    rw [show xm_as ns h (pw h) (S 130 36) S = S from lp_id (fun i hi => by
      have z := xa_any_no.mp (by simpa using h7 : xa_any (fun j => decide (¬ S 164 (16 * h + j) = 0)) 16 = false) i hi
      rw [xm_as1, if_pos (Or.inl (by simpa using z))])]
    exact xa_vret dX7_writeAsks_10 rfl ⟨rfl, rfl, hW⟩
theorem sub_1 (x y : Int32) : x - y - 1 = x - (y + 1) := by
  apply Int32.toBitVec_inj.mp
  simp only [Int32.toBitVec_add, Int32.toBitVec_sub]
  rw [BitVec.sub_eq_add_neg, BitVec.sub_eq_add_neg, BitVec.sub_eq_add_neg, BitVec.neg_add, BitVec.sub_eq_add_neg, BitVec.add_assoc]
theorem left_e {t e : Int32} (ht : vp_in t 30001) (he : vp_in e 30300) (hle : e.toInt ≤ t.toInt + 201) : (e - t - 1 ≤ 0) = (e - t ≤ 1) ∧ (¬ e - t ≤ 1 → vp_in (e - t - 1) 201) := by
  have l1 : xc t < 30001 := xa_in_lt ht
  have l2 : xc e < 30300 := xa_in_lt he
  have e1 : t = nI (xc t) := xa_in_eq ht
  have e2 : e = nI (xc e) := xa_in_eq he
  rw [e1, e2, nI_toInt (by omega), nI_toInt (by omega)] at hle
  rw [e1, e2, sub_1, nI_1]
  generalize xc t = a at *; generalize xc e = b at *
  have s1 : (nI b - nI a).toInt = (b : Int) - a := pk_sub_toInt (by omega) (by omega)
  have s2 : (nI b - nI (a + 1)).toInt = (b : Int) - ((a + 1 : Nat) : Int) := pk_sub_toInt (by omega) (by omega)
  have z0 : (0 : Int32).toInt = 0 := rfl
  have z1 : (1 : Int32).toInt = 1 := rfl
  refine ⟨propext ?_, fun g => ?_⟩
  · rw [fa_le, fa_le, s1, s2, z0, z1]; omega
  · rw [fa_le, s1, z1] at g; rw [vp_in_iff, s2]; omega
def xm_wt (h wr : Nat) (t vb : Int32) (s : Nat) (S : xa_AH) : xa_AH := if xm_spk S h s = true then (if S 151 s = 2 then (xa_up (xa_up (xa_up (xa_up (xa_up S 153 s (t + S 150 s / 2)) 187 (32 * wr + s) (S 148 s)) 188 (32 * wr + s) (S 149 s)) 189 (32 * wr + s) (S 150 s)) 190 (32 * wr + s) (1 <<< (S 131 h &&& 31))) else S) else if ¬ vb = 0 ∧ ¬ S 158 (32 * h + s) = 0 ∧ ¬ S 162 (32 * h + s) - t ≤ 1 then (xa_up (xa_up (xa_up (xa_up S 187 (32 * wr + s) (S 159 (32 * h + s))) 188 (32 * wr + s) (S 160 (32 * h + s))) 189 (32 * wr + s) (S 162 (32 * h + s) - t - 1)) 190 (32 * wr + s) (1 <<< (S 131 h &&& 31))) else S
theorem pos_of {n : Int32} (h : 1 ≤ n) : 0 < n := by
  rw [fa_le] at h; rw [fa_lt]
  have z0 : (0 : Int32).toInt = 0 := rfl
  have z1 : (1 : Int32).toInt = 1 := rfl
  omega
set_option maxHeartbeats 4000000 in
theorem cx_writeTelling (E : xa_EV) {L : List Nat} {T : xa_AH} {R : xa_AR} {nh ns h : Nat} {pw : Nat → Nat} {S : xa_AH} {nb : Int32} (hW : WX nh ns h pw L T R S nb) (hh : h < nh) (hnb : nb = 1 <<< (S 131 h &&& 31)) {s : Nat} (ha : S 136 h = 2) (hs : s < ns) (vb : Int32) : xa_Ct E mX7_writeTelling [.ref (ci 0 129), .ref (ci h 0), .ref (ci s 128), .int vb] L T R (PWX nh ns h pw L R (xm_wt h (pw h) (S 130 36) vb s S) nb) := by
  refine xa_Ct.of [some (.ref (ci 0 129)), some (.ref (ci h 0)), some (.ref (ci s 128)), some (.int vb), none, none] rfl (Nat.le_of_ble_eq_true rfl) (by simp [Value.category]) rfl ?_
  have hX := hW.1
  have n12 := hX.n12
  have n32 := hX.n32
  refine xa_aload_n (pc := 0) dX7_writeTelling_0 rfl ?_
  refine xa_getIv (pc := 1) 5 0 _ lfX7_264 dX7_writeTelling_1 (hX.sM hs) (kd_128 _) rfl (hX.s_number hs) ?_
  refine xa_istore (pc := 4) dX7_writeTelling_4 (by decide) ?_
  refine xa_aload_n (pc := 6) dX7_writeTelling_6 rfl ?_
  refine xa_aload_n (pc := 7) dX7_writeTelling_7 rfl ?_
  refine xa_aload_n (pc := 8) dX7_writeTelling_8 rfl ?_
  refine xa_callV (pc := 9) hX.c_m129 (kd_129 _) rfl lcX7_331 dX7_writeTelling_9 (cx_speaksFor E hX hh ha hs) rfl rfl (by decide) (Nat.le_of_ble_eq_true rfl) (by decide) ?_
  rintro _ _ _ ⟨rfl, rfl, rfl⟩
  refine xa_if_eq (pc := 12) 63 dX7_writeTelling_12 (by decide) (fun h12 => ?_) (fun h12 => ?_)
  · have h12 := xa_b_0.mp h12
    refine xa_iload_n (pc := 63) dX7_writeTelling_63 rfl ?_
    refine xa_if_eq (pc := 64) 133 dX7_writeTelling_64 (by decide) (fun h64 => ?_) (fun h64 => ?_)
    · rw [show xm_wt h (pw h) (S 130 36) vb s S = S from by unfold xm_wt; rw [if_neg (by rw [h12]; decide), if_neg (fun g => g.1 h64)]]
      exact xa_vret dX7_writeTelling_133 rfl ⟨rfl, rfl, hW⟩
    · refine xa_aload_n (pc := 67) dX7_writeTelling_67 rfl ?_
      refine xa_getA (pc := 68) 3 4 (ci h 1) lfX7_134 dX7_writeTelling_68 ((hX.hS hh).1 0 (by decide)) (kd_0 _) rfl ((hX.hS hh).2 (0, 4, 1) (by decide)) ?_
      refine xa_iload (pc := 71) dX7_writeTelling_71 rfl ?_
      refine xa_callV (pc := 73) ((hX.hS hh).1 1 (by decide)) (kd_1 _) rfl lcX7_191 dX7_writeTelling_73 (rq_has E hX hh (s := s) rfl (by omega)) rfl rfl (by decide) (Nat.le_of_ble_eq_true rfl) (by decide) ?_
      rintro _ _ _ ⟨rfl, rfl, rfl⟩
      refine xa_if_eq (pc := 76) 133 dX7_writeTelling_76 (by decide) (fun h76 => ?_) (fun h76 => ?_)
      · have h76 := xa_b_0.mp h76
        rw [show xm_wt h (pw h) (S 130 36) vb s S = S from by unfold xm_wt; rw [if_neg (by rw [h12]; decide), if_neg (fun g => g.2.1 (by simpa using h76))]]
        exact xa_vret dX7_writeTelling_133 rfl ⟨rfl, rfl, hW⟩
      · have h76 := xa_b_n0.mp h76
        refine xa_aload_n (pc := 79) dX7_writeTelling_79 rfl ?_
        refine xa_getA (pc := 80) 3 4 (ci h 1) lfX7_134 dX7_writeTelling_80 ((hX.hS hh).1 0 (by decide)) (kd_0 _) rfl ((hX.hS hh).2 (0, 4, 1) (by decide)) ?_
        refine xa_iload (pc := 83) dX7_writeTelling_83 rfl ?_
        refine xa_aload_n (pc := 85) dX7_writeTelling_85 rfl ?_
        refine xa_getIv (pc := 86) 7 4 _ lfX7_62 dX7_writeTelling_86 hX.c_m129 (kd_129 _) rfl hX.g_now ?_
        refine xa_callV (pc := 89) ((hX.hS hh).1 1 (by decide)) (kd_1 _) rfl lcX7_194 dX7_writeTelling_89 (rq_left E hX hh (s := s) rfl (by omega) _) rfl rfl (by decide) (Nat.le_of_ble_eq_true rfl) (by decide) ?_
        rintro _ _ _ ⟨rfl, rfl, rfl⟩
        refine xa_iconst (pc := 92) (v := 1) dX7_writeTelling_92 (by decide) ?_
        refine xa_isub (pc := 93) dX7_writeTelling_93 ?_
        refine xa_istore (pc := 94) dX7_writeTelling_94 (by decide) ?_
        refine xa_iload (pc := 96) dX7_writeTelling_96 rfl ?_
        refine xa_if_le (pc := 98) 133 dX7_writeTelling_98 (by decide) (fun h98 => ?_) (fun h98 => ?_)
        · rw [show xm_wt h (pw h) (S 130 36) vb s S = S from by unfold xm_wt; rw [if_neg (by rw [h12]; decide), if_neg (fun g => g.2.2 (by
            have hrec : ¬ S 158 (32 * h + s) = 0 := by simpa using h76
            rw [← (left_e hX.ig_t (hX.ir_end hh (show s < 32 by omega)) (hX.ie_le hh (show s < 32 by omega) hrec)).1]; exact h98))]]
          exact xa_vret dX7_writeTelling_133 rfl ⟨rfl, rfl, hW⟩
        · refine xa_aload_n (pc := 101) dX7_writeTelling_101 rfl ?_
          refine xa_getA (pc := 102) 3 15 (lt R h) lfX7_280 dX7_writeTelling_102 ((hX.hS hh).1 0 (by decide)) (kd_0 _) rfl (hX.l_rl hh) ?_
          refine xa_iload (pc := 105) dX7_writeTelling_105 rfl ?_
          refine xa_aload_n (pc := 107) dX7_writeTelling_107 rfl ?_
          refine xa_getA (pc := 108) 3 4 (ci h 1) lfX7_134 dX7_writeTelling_108 ((hX.hS hh).1 0 (by decide)) (kd_0 _) rfl ((hX.hS hh).2 (0, 4, 1) (by decide)) ?_
          refine xa_getA (pc := 111) 6 0 (ci h 2) lfX7_184 dX7_writeTelling_111 ((hX.hS hh).1 1 (by decide)) (kd_1 _) rfl ((hX.hS hh).2 (1, 0, 2) (by decide)) ?_
          refine xa_iload (pc := 114) dX7_writeTelling_114 rfl ?_
          refine xa_ialdC (pc := 116) s _ dX7_writeTelling_116 ((hX.hS hh).1 2 (by decide)) (kd_2 _) (ln_2 _) rfl (by omega) (by decide) (hX.r_name hh (by omega)) ?_
          refine xa_aload_n (pc := 117) dX7_writeTelling_117 rfl ?_
          refine xa_getA (pc := 118) 3 4 (ci h 1) lfX7_134 dX7_writeTelling_118 ((hX.hS hh).1 0 (by decide)) (kd_0 _) rfl ((hX.hS hh).2 (0, 4, 1) (by decide)) ?_
          refine xa_getA (pc := 121) 6 1 (ci h 3) lfX7_192 dX7_writeTelling_121 ((hX.hS hh).1 1 (by decide)) (kd_1 _) rfl ((hX.hS hh).2 (1, 1, 3) (by decide)) ?_
          refine xa_iload (pc := 124) dX7_writeTelling_124 rfl ?_
          refine xa_ialdC (pc := 126) s _ dX7_writeTelling_126 ((hX.hS hh).1 3 (by decide)) (kd_3 _) (ln_3 _) rfl (by omega) (by decide) (hX.r_marks hh (by omega)) ?_
          refine xa_iload (pc := 127) dX7_writeTelling_127 rfl ?_
          refine xa_iconst (pc := 129) (v := 0) dX7_writeTelling_129 (by decide) ?_
          refine xa_callV (pc := 130) ((hX.l_cl hh)).1 ((hX.l_cl hh)).2.1 rfl lcX7_337 dX7_writeTelling_130 (cx_addTelling E (hX.l_cl hh) (s := s) rfl (by omega) _ _ _ _) rfl rfl (by decide) (Nat.le_of_ble_eq_true rfl) (by decide) ?_
          rintro _ _ _ ⟨rfl, rfl, rfl⟩
          have hrec : ¬ S 158 (32 * h + s) = 0 := by simpa using h76
          have le := left_e hX.ig_t (hX.ir_end hh (show s < 32 by omega)) (hX.ie_le hh (show s < 32 by omega) hrec)
          have hl : ¬ S 162 (32 * h + s) - S 130 36 ≤ 1 := by rw [← le.1]; exact h98
          have w1 := addTelling_cur hW hh (show s < 32 by omega) (n := S 159 (32 * h + s)) (m := S 160 (32 * h + s)) (l := S 162 (32 * h + s) - S 130 36 - 1) (b := 0) (pos_of (hX.ir_lt hh (show s < 32 by omega) hrec).2.2.1) (le.2 hl)
          rw [zor] at w1
          rw [show xm_wt h (pw h) (S 130 36) vb s S = _ from by unfold xm_wt; rw [if_neg (by rw [h12]; decide), if_pos ⟨h64, hrec, hl⟩]]
          exact xa_vret dX7_writeTelling_133 rfl ⟨rfl, rfl, by rw [← hnb]; exact w1⟩
  · have h12 := xa_b_n0.mp h12
    refine xa_aload_n (pc := 15) dX7_writeTelling_15 rfl ?_
    refine xa_getIv (pc := 16) 5 7 _ lfX7_59 dX7_writeTelling_16 (hX.sM hs) (kd_128 _) rfl (hX.s_state hs) ?_
    refine xa_iconst (pc := 19) (v := 2) dX7_writeTelling_19 (by decide) ?_
    refine xa_icmp_ne (pc := 20) 133 dX7_writeTelling_20 (by decide) (fun h20 => ?_) (fun h20 => ?_)
    · rw [show xm_wt h (pw h) (S 130 36) vb s S = S from by unfold xm_wt; rw [if_pos h12, if_neg h20]]
      exact xa_vret dX7_writeTelling_133 rfl ⟨rfl, rfl, hW⟩
    · refine xa_aload_n (pc := 23) dX7_writeTelling_23 rfl ?_
      refine xa_getA (pc := 24) 3 15 (lt R h) lfX7_280 dX7_writeTelling_24 ((hX.hS hh).1 0 (by decide)) (kd_0 _) rfl (hX.l_rl hh) ?_
      refine xa_iload (pc := 27) dX7_writeTelling_27 rfl ?_
      refine xa_aload_n (pc := 29) dX7_writeTelling_29 rfl ?_
      refine xa_getIv (pc := 30) 5 5 _ lfX7_201 dX7_writeTelling_30 (hX.sM hs) (kd_128 _) rfl (hX.s_name hs) ?_
      refine xa_aload_n (pc := 33) dX7_writeTelling_33 rfl ?_
      refine xa_getIv (pc := 34) 5 6 _ lfX7_56 dX7_writeTelling_34 (hX.sM hs) (kd_128 _) rfl (hX.s_marks hs) ?_
      refine xa_aload_n (pc := 37) dX7_writeTelling_37 rfl ?_
      refine xa_getIv (pc := 38) 5 3 _ lfX7_335 dX7_writeTelling_38 (hX.sM hs) (kd_128 _) rfl (hX.s_life hs) ?_
      refine xa_iconst (pc := 41) (v := 0) dX7_writeTelling_41 (by decide) ?_
      refine xa_callV (pc := 42) ((hX.l_cl hh)).1 ((hX.l_cl hh)).2.1 rfl lcX7_337 dX7_writeTelling_42 (cx_addTelling E (hX.l_cl hh) (s := s) rfl (by omega) _ _ _ _) rfl rfl (by decide) (Nat.le_of_ble_eq_true rfl) (by decide) ?_
      rintro _ _ _ ⟨rfl, rfl, rfl⟩
      have w1 := addTelling_cur hW hh (show s < 32 by omega) (n := S 148 s) (m := S 149 s) (l := S 150 s) (b := 0) (pos_of (hX.is_nm hs).1) (hX.is_li hs)
      refine xa_aload_n (pc := 45) dX7_writeTelling_45 rfl ?_
      refine xa_aload_n (pc := 46) dX7_writeTelling_46 rfl ?_
      refine xa_getIv (pc := 47) 7 4 (S 130 36) lfX7_62 dX7_writeTelling_47 hX.c_m129 (kd_129 _) rfl w1.1.g_now ?_
      refine xa_aload_n (pc := 50) dX7_writeTelling_50 rfl ?_
      refine xa_getIv (pc := 51) 5 3 (S 150 s) lfX7_335 dX7_writeTelling_51 (hX.sM hs) (kd_128 _) rfl (w1.1.s_life hs) ?_
      refine xa_iconst (pc := 54) (v := 2) dX7_writeTelling_54 (by decide) ?_
      refine xa_idiv (pc := 55) dX7_writeTelling_55 (by decide) ?_
      refine xa_iadd (pc := 56) dX7_writeTelling_56 ?_
      refine xa_putI (pc := 57) 5 9 lpX7_65 dX7_writeTelling_57 (hX.sM hs) (kd_128 _) rfl rfl rfl ?_
      refine xa_goto (pc := 60) (tgt := 133) dX7_writeTelling_60 (by decide) ?_
      have r2 := rx_renew w1.1 (s := s) (t := S 130 36 + S 150 s / 2) hs
      have w2 := w1.base hh r2 (fl_up fl_rf (by decide) (by decide)) (fun a ha => up_o (by omega))
      rw [zor] at w2
      rw [show xm_wt h (pw h) (S 130 36) vb s S = _ from by unfold xm_wt; rw [if_pos h12, if_pos h20]]
      exact xa_vret dX7_writeTelling_133 rfl ⟨rfl, rfl, by rw [up_comm (a := 153) (b := 187) (by decide), up_comm (a := 153) (b := 188) (by decide), up_comm (a := 153) (b := 189) (by decide), up_comm (a := 153) (b := 190) (by decide), ← hnb]; exact w2⟩
