def xm_hd1 (t : Int32) (s : Nat) (S : xa_AH) : xa_AH := if ¬ S 151 s = 1 ∨ 0 < S 152 s ∨ ¬ S 136 (xc (S 146 s)) = 2 then S else xa_up (xa_up S 151 s 2) 153 s t
theorem hd1_a {t : Int32} {s a : Nat} {S : xa_AH} (h1 : a ≠ 151) (h2 : a ≠ 153) : xm_hd1 t s S a = S a := by
  unfold xm_hd1; split
  · rfl
  · rw [up_o h2, up_o h1]
set_option maxHeartbeats 4000000 in
theorem lx_hold (E : xa_EV) {L : List Nat} {R : xa_AR} {nh ns k : Nat} {pw : Nat → Nat} (t : Int32) {S : xa_AH} : ∀ x, x ≤ ns → ∀ T U, RX nh ns k pw L T R U → U = xa_lp (xm_hd1 t) x S → U 130 36 = t → xa_W E mX7_holdClaimedNames (xa_Z E mX7_holdClaimedNames L (PR2 nh ns k pw L R (xa_lp (xm_hd1 t) ns S))) 0 0 2 [some (.ref (ci 0 129)), some (.int (nI x)), none] [] L T R := by
  refine xa_dn (fun x hx ih => ?_)
  intro T U hX eU hnow
  have n12 := hX.n12
  have n32 := hX.n32
  refine xa_iload_n (pc := 2) dX7_holdClaimedNames_2 rfl ?_
  refine xa_aload_n (pc := 3) dX7_holdClaimedNames_3 rfl ?_
  refine xa_getIv (pc := 4) 7 3 _ lfX7_103 dX7_holdClaimedNames_4 hX.c_m129 (kd_129 _) rfl hX.g_ns ?_
  refine xa_icmpN_ge (pc := 7) 57 x ns dX7_holdClaimedNames_7 (by decide) rfl rfl (by omega) (by omega) (fun h7 => ?_) (fun h7 => ?_)
  · have g7 : ¬ (x < ns) := by omega
    have ex : x = ns := by omega
    subst ex
    exact xa_vret dX7_holdClaimedNames_57 rfl ⟨rfl, rfl, by rw [← eU]; exact hX⟩
  · refine xa_aload_n (pc := 10) dX7_holdClaimedNames_10 rfl ?_
    refine xa_getA (pc := 11) 7 1 (ci 0 127) lfX7_17 dX7_holdClaimedNames_11 hX.c_m129 (kd_129 _) rfl hX.c_r1 ?_
    refine xa_iload_n (pc := 14) dX7_holdClaimedNames_14 rfl ?_
    refine xa_aaldS (pc := 15) x (ci x 128) dX7_holdClaimedNames_15 hX.c_m127 rfl (by omega) (hX.sA (by omega)) ?_
    refine xa_astore_n (pc := 16) dX7_holdClaimedNames_16 (by decide) ?_
    refine xa_aload_n (pc := 17) dX7_holdClaimedNames_17 rfl ?_
    refine xa_getIv (pc := 18) 5 7 _ lfX7_59 dX7_holdClaimedNames_18 (hX.sM (by omega)) (kd_128 _) rfl (hX.s_state (by omega)) ?_
    refine xa_iconst (pc := 21) (v := 1) dX7_holdClaimedNames_21 (by decide) ?_
    refine xa_icmp_ne (pc := 22) 51 dX7_holdClaimedNames_22 (by decide) (fun h22 => ?_) (fun h22 => ?_)
    · refine xa_iinc (pc := 51) (v := nI (x + 1)) dX7_holdClaimedNames_51 rfl (by decide) (nI_1 _) ?_
      refine xa_goto (pc := 54) (tgt := 2) dX7_holdClaimedNames_54 (by decide) ?_
      exact xa_fgk (ih (by omega) _ _ hX (by rw [xa_lp, ← eU, xm_hd1, if_pos (Or.inl h22)]) hnow) (And.intro rfl (And.intro rfl trivial))
    · refine xa_aload_n (pc := 25) dX7_holdClaimedNames_25 rfl ?_
      refine xa_getIv (pc := 26) 5 8 _ lfX7_203 dX7_holdClaimedNames_26 (hX.sM (by omega)) (kd_128 _) rfl (hX.s_claims (by omega) (by assumption)) ?_
      refine xa_if_ne (pc := 29) 51 dX7_holdClaimedNames_29 (by decide) (fun h29 => ?_) (fun h29 => ?_)
      · refine xa_iinc (pc := 51) (v := nI (x + 1)) dX7_holdClaimedNames_51 rfl (by decide) (nI_1 _) ?_
        refine xa_goto (pc := 54) (tgt := 2) dX7_holdClaimedNames_54 (by decide) ?_
        exact xa_fgk (ih (by omega) _ _ hX (by rw [xa_lp, ← eU, xm_hd1, if_pos (Or.inr (Or.inl (Classical.byContradiction (fun g => h29 (by rw [cl_0 (hX.is_cl (s := x) (by omega))]; exact g)))))]) hnow) (And.intro rfl (And.intro rfl trivial))
      · refine xa_aload_n (pc := 32) dX7_holdClaimedNames_32 rfl ?_
        refine xa_getA (pc := 33) 5 1 (ci (xc (U 146 x)) 0) lfX7_106 dX7_holdClaimedNames_33 (hX.sM (by omega)) (kd_128 _) rfl (hX.s_host (by omega)) ?_
        refine xa_getIv (pc := 36) 3 8 _ lfX7_95 dX7_holdClaimedNames_36 ((hX.hS (hX.hO (by omega))).1 0 (by decide)) (kd_0 _) rfl (hX.h_state (hX.hO (by omega))) ?_
        refine xa_iconst (pc := 39) (v := 2) dX7_holdClaimedNames_39 (by decide) ?_
        refine xa_icmp_ne (pc := 40) 51 dX7_holdClaimedNames_40 (by decide) (fun h40 => ?_) (fun h40 => ?_)
        · refine xa_iinc (pc := 51) (v := nI (x + 1)) dX7_holdClaimedNames_51 rfl (by decide) (nI_1 _) ?_
          refine xa_goto (pc := 54) (tgt := 2) dX7_holdClaimedNames_54 (by decide) ?_
          exact xa_fgk (ih (by omega) _ _ hX (by rw [xa_lp, ← eU, xm_hd1, if_pos (Or.inr (Or.inr (fun g => h40 (xs2.mpr ⟨g, (Classical.byContradiction (fun g => by have z := hX.is_lv (s := x) (by omega) g; rw [h22] at z; exact absurd z (by decide)))⟩))))]) hnow) (And.intro rfl (And.intro rfl trivial))
        · refine xa_aload_n (pc := 43) dX7_holdClaimedNames_43 rfl ?_
          refine xa_aload_n (pc := 44) dX7_holdClaimedNames_44 rfl ?_
          refine xa_getIv (pc := 45) 7 4 _ lfX7_62 dX7_holdClaimedNames_45 hX.c_m129 (kd_129 _) rfl hX.g_now ?_
          refine xa_callV (pc := 48) (hX.sM (by omega)) (kd_128 _) rfl lcX7_260 dX7_holdClaimedNames_48 (cx_hold E (hX.sM (by omega)) _) rfl rfl (by decide) (Nat.le_of_ble_eq_true rfl) (by decide) ?_
          rintro _ _ _ ⟨rfl, rfl, rfl⟩
          refine xa_iinc (pc := 51) (v := nI (x + 1)) dX7_holdClaimedNames_51 rfl (by decide) (nI_1 _) ?_
          refine xa_goto (pc := 54) (tgt := 2) dX7_holdClaimedNames_54 (by decide) ?_
          have l0 : U 137 (xc (U 146 x)) = 0 := (Classical.byContradiction (fun g => by have z := hX.is_lv (s := x) (by omega) g; rw [h22] at z; exact absurd z (by decide)))
          rw [hnow]
          exact xa_fgk (ih (by omega) _ _ (rx_hold hX (by omega) l0) (by rw [xa_lp, ← eU, xm_hd1, if_neg (fun g => g.elim (fun g => g h22) (fun g => g.elim (fun g => by rw [h29] at g; exact absurd g (by decide)) (fun g => g (xs2.mp h40).1)))]) hnow) (And.intro rfl (And.intro rfl trivial))
set_option maxHeartbeats 4000000 in
theorem cx_holdClaimedNames (E : xa_EV) {L : List Nat} {T : xa_AH} {R : xa_AR} {nh ns k : Nat} {pw : Nat → Nat} {S : xa_AH} (hX : RX nh ns k pw L T R S)  : xa_Ct E mX7_holdClaimedNames [.ref (ci 0 129)] L T R (PR2 nh ns k pw L R (xa_lp (xm_hd1 (S 130 36)) ns S)) := by
  refine xa_Ct.of [some (.ref (ci 0 129)), none, none] rfl (Nat.le_of_ble_eq_true rfl) (by simp [Value.category]) rfl ?_
  have n12 := hX.n12
  have n32 := hX.n32
  refine xa_iconst (pc := 0) (v := 0) dX7_holdClaimedNames_0 (by decide) ?_
  refine xa_istore_n (pc := 1) dX7_holdClaimedNames_1 (by decide) ?_
  exact xa_fgk (lx_hold E (S 130 36) 0 (Nat.zero_le _) _ _ hX rfl rfl) (And.intro rfl (And.intro rfl trivial))
def xm_fg1 (h : Nat) (t : Int32) (s : Nat) (S : xa_AH) : xa_AH := if S 162 (32 * h + s) ≤ t then xa_up S 158 (32 * h + s) 0 else S
def xm_fg2 (ns h : Nat) (t : Int32) (s : Nat) (S : xa_AH) : xa_AH := if s < ns then xm_fg1 h t s S else S
theorem fg_32 {ns h : Nat} {t : Int32} (hn : ns ≤ 32) (S : xa_AH) : xa_lp (xm_fg2 ns h t) 32 S = xa_lp (xm_fg1 h t) ns S := by
  have a : ∀ n, n ≤ ns → xa_lp (xm_fg2 ns h t) n S = xa_lp (xm_fg1 h t) n S := by
    intro n
    induction n with
    | zero => intro _; rfl
    | succ n ih => intro q; rw [xa_lp, xa_lp, ih (by omega), xm_fg2, if_pos (by omega)]
  have b : ∀ m, xa_lp (xm_fg2 ns h t) (ns + m) S = xa_lp (xm_fg1 h t) ns S := by
    intro m
    induction m with
    | zero => exact a ns (Nat.le_refl _)
    | succ m ih => rw [← Nat.add_assoc, xa_lp, ih, xm_fg2, if_neg (by omega)]
  have := b (32 - ns)
  rw [show ns + (32 - ns) = 32 by omega] at this
  exact this
set_option maxHeartbeats 4000000 in
theorem lx_rend (E : xa_EV) {L : List Nat} {R : xa_AR} {nh ns k h : Nat} {pw : Nat → Nat} (hh : h < nh) (t : Int32) {S : xa_AH} : ∀ x, x ≤ 32 → ∀ T U, RX nh ns k pw L T R U → U = xa_lp (xm_fg2 ns h t) x S → xa_W E mX6_removeEnding (xa_Z E mX6_removeEnding L (PR2 nh ns k pw L R (xa_lp (xm_fg1 h t) ns S))) 0 0 10 [some (.ref (ci h 1)), some (.int t), some (.int (nI x))] [] L T R := by
  refine xa_dn (fun x hx ih => ?_)
  intro T U hX eU
  have n12 := hX.n12
  have n32 := hX.n32
  refine xa_iload_n (pc := 10) dX6_removeEnding_10 rfl ?_
  refine xa_bipush (pc := 11) (v := 32) dX6_removeEnding_11 (by decide) ?_
  refine xa_icmpN_ge (pc := 13) 45 x 32 dX6_removeEnding_13 (by decide) rfl rfl (by omega) (by omega) (fun h13 => ?_) (fun h13 => ?_)
  · have g13 : ¬ (x < 32) := by omega
    have ex : x = 32 := by omega
    subst ex
    rw [← fg_32 hX.n32]
    exact xa_vret dX6_removeEnding_45 rfl ⟨rfl, rfl, by rw [← eU]; exact hX⟩
  · refine xa_aload_n (pc := 16) dX6_removeEnding_16 rfl ?_
    refine xa_getA (pc := 17) 6 3 (ci h 5) lfX6_21 dX6_removeEnding_17 ((hX.hS hh).1 1 (by decide)) (kd_1 _) rfl ((hX.hS hh).2 (1, 3, 5) (by decide)) ?_
    refine xa_iload_n (pc := 20) dX6_removeEnding_20 rfl ?_
    refine xa_ialdC (pc := 21) x _ dX6_removeEnding_21 ((hX.hS hh).1 5 (by decide)) (kd_5 _) (ln_5 _) rfl (by omega) (by decide) (hX.r_end hh (by omega)) ?_
    refine xa_iload_n (pc := 22) dX6_removeEnding_22 rfl ?_
    refine xa_icmp_gt (pc := 23) 39 dX6_removeEnding_23 (by decide) (fun h23 => ?_) (fun h23 => ?_)
    · refine xa_iinc (pc := 39) (v := nI (x + 1)) dX6_removeEnding_39 rfl (by decide) (nI_1 _) ?_
      refine xa_goto (pc := 42) (tgt := 10) dX6_removeEnding_42 (by decide) ?_
      have es : U = xm_fg2 ns h t x U := by
        unfold xm_fg2 xm_fg1; split
        · rw [if_neg (Int32.not_le.mpr h23)]
        · rfl
      exact xa_fgk (ih (by omega) _ _ hX (by rw [xa_lp, ← eU]; exact es)) (And.intro rfl (And.intro rfl (And.intro rfl trivial)))
    · refine xa_aload_n (pc := 26) dX6_removeEnding_26 rfl ?_
      refine xa_iload_n (pc := 27) dX6_removeEnding_27 rfl ?_
      refine xa_callV (pc := 28) ((hX.hS hh).1 1 (by decide)) (kd_1 _) rfl lcX6_38 dX6_removeEnding_28 (rq_has E hX hh (s := x) rfl (by omega)) rfl rfl (by decide) (Nat.le_of_ble_eq_true rfl) (by decide) ?_
      rintro _ _ _ ⟨rfl, rfl, rfl⟩
      refine xa_if_eq (pc := 31) 39 dX6_removeEnding_31 (by decide) (fun h31 => ?_) (fun h31 => ?_)
      · have h31 := xa_b_0.mp h31
        refine xa_iinc (pc := 39) (v := nI (x + 1)) dX6_removeEnding_39 rfl (by decide) (nI_1 _) ?_
        refine xa_goto (pc := 42) (tgt := 10) dX6_removeEnding_42 (by decide) ?_
        have hrec : U 158 (32 * h + x) = 0 := by simpa using h31
        have es : U = xm_fg2 ns h t x U := by
          unfold xm_fg2 xm_fg1; split
          · split
            · exact (up_same hrec).symm
            · rfl
          · rfl
        exact xa_fgk (ih (by omega) _ _ hX (by rw [xa_lp, ← eU]; exact es)) (And.intro rfl (And.intro rfl (And.intro rfl trivial)))
      · have h31 := xa_b_n0.mp h31
        refine xa_aload_n (pc := 34) dX6_removeEnding_34 rfl ?_
        refine xa_iload_n (pc := 35) dX6_removeEnding_35 rfl ?_
        refine xa_callV (pc := 36) ((hX.hS hh).1 1 (by decide)) (kd_1 _) rfl lcX6_42 dX6_removeEnding_36 (cx_remove E (hX.hS hh) (s := x) rfl (by omega)) rfl rfl (by decide) (Nat.le_of_ble_eq_true rfl) (by decide) ?_
        rintro _ _ _ ⟨rfl, rfl, rfl⟩
        refine xa_iinc (pc := 39) (v := nI (x + 1)) dX6_removeEnding_39 rfl (by decide) (nI_1 _) ?_
        refine xa_goto (pc := 42) (tgt := 10) dX6_removeEnding_42 (by decide) ?_
        have hrec : ¬ U 158 (32 * h + x) = 0 := by simpa using h31
        have hxn := (hX.ir_lt hh (show x < 32 by omega) hrec).1
        exact xa_fgk (ih (by omega) _ _ (rx_recrem hX hh (by omega)) (by rw [xa_lp, ← eU, xm_fg2, if_pos hxn, xm_fg1, if_pos (Int32.not_lt.mp h23)])) (And.intro rfl (And.intro rfl (And.intro rfl trivial)))
set_option maxHeartbeats 4000000 in
theorem cx_removeEnding (E : xa_EV) {L : List Nat} {T : xa_AH} {R : xa_AR} {nh ns k : Nat} {pw : Nat → Nat} {S : xa_AH} (hX : RX nh ns k pw L T R S) {h : Nat} (hh : h < nh) (t : Int32) : xa_Ct E mX6_removeEnding [.ref (ci h 1), .int t] L T R (PR2 nh ns k pw L R (xa_lp (xm_fg1 h t) ns S)) := by
  refine xa_Ct.of [some (.ref (ci h 1)), some (.int t), none] rfl (Nat.le_of_ble_eq_true rfl) (by simp [Value.category]) rfl ?_
  have n12 := hX.n12
  have n32 := hX.n32
  refine xa_aload_n (pc := 0) dX6_removeEnding_0 rfl ?_
  refine xa_getI (pc := 1) 6 4 lfX6_24 dX6_removeEnding_1 ((hX.hS hh).1 1 (by decide)) (kd_1 _) rfl ?_
  refine xa_if_ne (pc := 4) 8 dX6_removeEnding_4 (by decide) (fun h4 => ?_) (fun h4 => ?_)
  · refine xa_iconst (pc := 8) (v := 0) dX6_removeEnding_8 (by decide) ?_
    refine xa_istore_n (pc := 9) dX6_removeEnding_9 (by decide) ?_
    exact xa_fgk (lx_rend E hh t 0 (Nat.zero_le _) _ _ hX rfl) (And.intro rfl (And.intro rfl (And.intro rfl trivial)))
  · rw [show xa_lp (xm_fg1 h t) ns S = S from lp_id (fun i hi => by
      have z : S 158 (32 * h + i) = 0 := by
        have y := hX.r_held hh (show i < 32 by omega)
        rw [h4, b_0] at y; simpa using y.symm
      unfold xm_fg1; split
      · exact up_same z
      · rfl)]
    exact xa_vret dX6_removeEnding_7 rfl ⟨rfl, rfl, hX⟩
def xm_fgH (ns : Nat) (t : Int32) (h : Nat) (S : xa_AH) : xa_AH := xa_lp (xm_fg1 h t) ns S
theorem fg1_a {h s a : Nat} {t : Int32} {S : xa_AH} (h1 : a ≠ 158) : xm_fg1 h t s S a = S a := by
  unfold xm_fg1; split
  · exact up_o h1
  · rfl
theorem fgH_a {ns h a : Nat} {t : Int32} {S : xa_AH} (h1 : a ≠ 158) : xm_fgH ns t h S a = S a := lp_a (fun i V => fg1_a h1) _ _
set_option maxHeartbeats 4000000 in
theorem lx_forget (E : xa_EV) {L : List Nat} {R : xa_AR} {nh ns k : Nat} {pw : Nat → Nat} (t : Int32) {S : xa_AH} : ∀ x, x ≤ nh → ∀ T U, RX nh ns k pw L T R U → U = xa_lp (xm_fgH ns (t + 1)) x S → U 130 36 = t → xa_W E mX7_forgetWhatEnds (xa_Z E mX7_forgetWhatEnds L (PR2 nh ns k pw L R (xa_lp (xm_fgH ns (t + 1)) nh S))) 0 0 2 [some (.ref (ci 0 129)), some (.int (nI x))] [] L T R := by
  refine xa_dn (fun x hx ih => ?_)
  intro T U hX eU hnow
  have n12 := hX.n12
  have n32 := hX.n32
  refine xa_iload_n (pc := 2) dX7_forgetWhatEnds_2 rfl ?_
  refine xa_aload_n (pc := 3) dX7_forgetWhatEnds_3 rfl ?_
  refine xa_getIv (pc := 4) 7 2 _ lfX7_25 dX7_forgetWhatEnds_4 hX.c_m129 (kd_129 _) rfl hX.g_nh ?_
  refine xa_icmpN_ge (pc := 7) 34 x nh dX7_forgetWhatEnds_7 (by decide) rfl rfl (by omega) (by omega) (fun h7 => ?_) (fun h7 => ?_)
  · have g7 : ¬ (x < nh) := by omega
    have ex : x = nh := by omega
    subst ex
    exact xa_vret dX7_forgetWhatEnds_34 rfl ⟨rfl, rfl, by rw [← eU]; exact hX⟩
  · refine xa_aload_n (pc := 10) dX7_forgetWhatEnds_10 rfl ?_
    refine xa_getA (pc := 11) 7 0 (ci 0 126) lfX7_11 dX7_forgetWhatEnds_11 hX.c_m129 (kd_129 _) rfl hX.c_r0 ?_
    refine xa_iload_n (pc := 14) dX7_forgetWhatEnds_14 rfl ?_
    refine xa_aaldH (pc := 15) x (ci x 0) dX7_forgetWhatEnds_15 hX.c_m126 rfl (by omega) (hX.hA (by omega)) ?_
    refine xa_getA (pc := 16) 3 4 (ci x 1) lfX7_134 dX7_forgetWhatEnds_16 ((hX.hS (by omega)).1 0 (by decide)) (kd_0 _) rfl ((hX.hS (by omega)).2 (0, 4, 1) (by decide)) ?_
    refine xa_aload_n (pc := 19) dX7_forgetWhatEnds_19 rfl ?_
    refine xa_getIv (pc := 20) 7 4 _ lfX7_62 dX7_forgetWhatEnds_20 hX.c_m129 (kd_129 _) rfl hX.g_now ?_
    refine xa_iconst (pc := 23) (v := 1) dX7_forgetWhatEnds_23 (by decide) ?_
    refine xa_iadd (pc := 24) dX7_forgetWhatEnds_24 ?_
    refine xa_callV (pc := 25) ((hX.hS (by omega)).1 1 (by decide)) (kd_1 _) rfl lcX7_473 dX7_forgetWhatEnds_25 (cx_removeEnding E hX (by omega) _) rfl rfl (by decide) (Nat.le_of_ble_eq_true rfl) (by decide) ?_
    rintro _ _ _ ⟨rfl, rfl, hX2⟩
    refine xa_iinc (pc := 28) (v := nI (x + 1)) dX7_forgetWhatEnds_28 rfl (by decide) (nI_1 _) ?_
    refine xa_goto (pc := 31) (tgt := 2) dX7_forgetWhatEnds_31 (by decide) ?_
    rw [hnow] at hX2
    exact xa_fgk (ih (by omega) _ _ hX2 (by rw [xa_lp, ← eU]; rfl) (by have z := fgH_a (ns := ns) (h := x) (t := t + 1) (S := U) (show 130 ≠ 158 by decide); exact (congrFun z 36).trans hnow)) (And.intro rfl (And.intro rfl trivial))
set_option maxHeartbeats 4000000 in
theorem cx_forgetWhatEnds (E : xa_EV) {L : List Nat} {T : xa_AH} {R : xa_AR} {nh ns k : Nat} {pw : Nat → Nat} {S : xa_AH} (hX : RX nh ns k pw L T R S)  : xa_Ct E mX7_forgetWhatEnds [.ref (ci 0 129)] L T R (PR2 nh ns k pw L R (xa_lp (xm_fgH ns (S 130 36 + 1)) nh S)) := by
  refine xa_Ct.of [some (.ref (ci 0 129)), none] rfl (Nat.le_of_ble_eq_true rfl) (by simp [Value.category]) rfl ?_
  have n12 := hX.n12
  have n32 := hX.n32
  refine xa_iconst (pc := 0) (v := 0) dX7_forgetWhatEnds_0 (by decide) ?_
  refine xa_istore_n (pc := 1) dX7_forgetWhatEnds_1 (by decide) ?_
  exact xa_fgk (lx_forget E (S 130 36) 0 (Nat.zero_le _) _ _ hX rfl rfl) (And.intro rfl (And.intro rfl trivial))
