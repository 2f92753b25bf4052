theorem own3 {nh ns k : Nat} {pw : Nat → Nat} {L : List Nat} {T : xa_AH} {R : xa_AR} {S : xa_AH} (hX : RX nh ns k pw L T R S) {s : Nat} {h : Int32} (hs : s < ns) (eh : h = nI (xc h)) (hb : xc h < nh) : (S 146 s = h) = (xc (S 146 s) = xc h) := by
  apply propext
  constructor
  · intro e; rw [e]
  · intro e; rw [eh, ← e]; exact hX.hE hs
theorem end_same {nh ns k : Nat} {pw : Nat → Nat} {L : List Nat} {T : xa_AH} {R : xa_AR} {S : xa_AH} (hX : RX nh ns k pw L T R S) {s : Nat} (hs : s < ns) (hg : S 151 s = 0) : sx_end T s = T := by
  have h1 := hX.s_state hs
  have h2 := hX.s_hasBye hs
  have h3 : sx_bye T s = T (ci s 128) 10 := by
    unfold sx_bye; rw [h1, h2, hg]
    rcases hX.is_by hs with g | g <;> simp [g]
  unfold sx_end
  rw [h3]
  funext x y
  simp only [xa_up]
  by_cases e : x = ci s 128 ∧ y = 7
  · rw [if_pos e, e.1, e.2, h1, hg]
  · rw [if_neg e]
    by_cases e2 : x = ci s 128 ∧ y = 10
    · rw [if_pos e2, e2.1, e2.2]
    · rw [if_neg e2]
set_option maxHeartbeats 4000000 in
theorem lx_fall (E : xa_EV) {L : List Nat} {R : xa_AR} {nh ns k : Nat} {pw : Nat → Nat} {S : xa_AH} {h : Int32} (eh : h = nI (xc h)) (hb : xc h < nh) : ∀ x, x ≤ ns → ∀ T U, RX nh ns k pw L T R U → U = xa_lp (xm_fa1 h) x S → xa_W E mX7_fall (xa_Z E mX7_fall L (PX nh ns k pw L (.int 1) (xm_gone (xc h) (xa_lp (xm_fa1 h) ns S)))) 0 0 21 [some (.ref (ci 0 129)), some (.int h), some (.ref (ci (xc h) 0)), some (.int (nI x))] [] L T R := by
  refine xa_dn (fun x hx ih => ?_)
  intro T U hX eU
  have n12 := hX.n12
  have n32 := hX.n32
  refine xa_iload_n (pc := 21) dX7_fall_21 rfl ?_
  refine xa_aload_n (pc := 22) dX7_fall_22 rfl ?_
  refine xa_getIv (pc := 23) 7 3 _ lfX7_103 dX7_fall_23 hX.c_m129 (kd_129 _) rfl hX.g_ns ?_
  refine xa_icmpN_ge (pc := 26) 67 x ns dX7_fall_26 (by decide) rfl rfl (by omega) (by omega) (fun h26 => ?_) (fun h26 => ?_)
  · have g26 : ¬ (x < ns) := by omega
    refine xa_aload_n (pc := 67) dX7_fall_67 rfl ?_
    refine xa_callV (pc := 68) ((hX.hS hb).1 0 (by decide)) (kd_0 _) rfl lcX7_112 dX7_fall_68 (cx_goAway E (hX.hS hb)) rfl rfl (by decide) (Nat.le_of_ble_eq_true rfl) (by decide) ?_
    rintro _ _ _ ⟨rfl, rfl, rfl⟩
    refine xa_iconst (pc := 71) (v := 1) dX7_fall_71 (by decide) ?_
    have ex : x = ns := by omega
    subst ex
    exact xa_zret dX7_fall_72 rfl (by decide) ⟨rfl, by rw [← eU]; exact rx_goAway hX hb⟩
  · refine xa_aload_n (pc := 29) dX7_fall_29 rfl ?_
    refine xa_getA (pc := 30) 7 1 (ci 0 127) lfX7_17 dX7_fall_30 hX.c_m129 (kd_129 _) rfl hX.c_r1 ?_
    refine xa_iload_n (pc := 33) dX7_fall_33 rfl ?_
    refine xa_aaldS (pc := 34) x (ci x 128) dX7_fall_34 hX.c_m127 rfl (by omega) (hX.sA (by omega)) ?_
    refine xa_getA (pc := 35) 5 1 (ci (xc (U 146 x)) 0) lfX7_106 dX7_fall_35 (hX.sM (by omega)) (kd_128 _) rfl (hX.s_host (by omega)) ?_
    refine xa_aload_n (pc := 38) dX7_fall_38 rfl ?_
    refine xa_acmpC_ne (pc := 39) 61 (x := (ci (xc (U 146 x)) 0)) (y := (ci (xc h) 0)) dX7_fall_39 (by decide) ((hX.hS (hX.hO (by omega))).1 0 (by decide)) ((hX.hS hb).1 0 (by decide)) (fun h39 => ?_) (fun h39 => ?_)
    · have h39 : ¬ ((xc (U 146 x)) = (xc h)) := fun q => h39 (ci_i.mpr q)
      refine xa_iinc (pc := 61) (v := nI (x + 1)) dX7_fall_61 rfl (by decide) (nI_1 _) ?_
      refine xa_goto (pc := 64) (tgt := 21) dX7_fall_64 (by decide) ?_
      exact xa_fgk (ih (by omega) _ _ hX (by rw [xa_lp, ← eU, xm_fa1, if_neg (by rw [own3 hX (by omega) eh hb]; exact h39)])) (And.intro rfl (And.intro rfl (And.intro rfl (And.intro rfl trivial))))
    · have h39 := ci_i.mp h39
      refine xa_aload_n (pc := 42) dX7_fall_42 rfl ?_
      refine xa_getA (pc := 43) 7 1 (ci 0 127) lfX7_17 dX7_fall_43 hX.c_m129 (kd_129 _) rfl hX.c_r1 ?_
      refine xa_iload_n (pc := 46) dX7_fall_46 rfl ?_
      refine xa_aaldS (pc := 47) x (ci x 128) dX7_fall_47 hX.c_m127 rfl (by omega) (hX.sA (by omega)) ?_
      refine xa_callV (pc := 48) (hX.sM (by omega)) (kd_128 _) rfl lcX7_50 dX7_fall_48 (cx_end E (hX.sM (by omega))) rfl rfl (by decide) (Nat.le_of_ble_eq_true rfl) (by decide) ?_
      rintro _ _ _ ⟨rfl, rfl, rfl⟩
      refine xa_aload_n (pc := 51) dX7_fall_51 rfl ?_
      refine xa_getA (pc := 52) 7 1 (ci 0 127) lfX7_17 dX7_fall_52 hX.c_m129 (kd_129 _) rfl hX.c_r1 ?_
      refine xa_iload_n (pc := 55) dX7_fall_55 rfl ?_
      refine xa_aaldS (pc := 56) x (ci x 128) dX7_fall_56 hX.c_m127 rfl (by omega) (hX.sA (by omega)) ?_
      refine xa_iconst (pc := 57) (v := 0) dX7_fall_57 (by decide) ?_
      refine xa_putI (pc := 58) 5 10 lpX7_109 dX7_fall_58 (hX.sM (by omega)) (kd_128 _) rfl rfl rfl ?_
      refine xa_iinc (pc := 61) (v := nI (x + 1)) dX7_fall_61 rfl (by decide) (nI_1 _) ?_
      refine xa_goto (pc := 64) (tgt := 21) dX7_fall_64 (by decide) ?_
      exact xa_fgk (ih (by omega) _ _ (rx_end2 hX (by omega)) (by rw [xa_lp, ← eU, xm_fa1, if_pos (by rw [own3 hX (by omega) eh hb]; exact h39)])) (And.intro rfl (And.intro rfl (And.intro rfl (And.intro rfl trivial))))
set_option maxHeartbeats 4000000 in
theorem cx_fall (E : xa_EV) {L : List Nat} {T : xa_AH} {R : xa_AR} {nh ns k : Nat} {pw : Nat → Nat} {S : xa_AH} (hX : RX nh ns k pw L T R S) (h : Int32) : xa_Ct E mX7_fall [.ref (ci 0 129), .int h] L T R (PX nh ns k pw L (.int (xa_b (xm_fall nh ns S h).1)) (xm_fall nh ns S h).2) := by
  refine xa_Ct.of [some (.ref (ci 0 129)), some (.int h), none, none] rfl (Nat.le_of_ble_eq_true rfl) (by simp [Value.category]) rfl ?_
  have n12 := hX.n12
  have n32 := hX.n32
  refine xa_aload_n (pc := 0) dX7_fall_0 rfl ?_
  refine xa_iload_n (pc := 1) dX7_fall_1 rfl ?_
  refine xa_callV (pc := 2) hX.c_m129 (kd_129 _) rfl lcX7_100 dX7_fall_2 (cx_hostAt E hX _) rfl rfl (by decide) (Nat.le_of_ble_eq_true rfl) (by decide) ?_
  rintro _ _ _ ⟨⟨hq2, rfl⟩ | ⟨hq2, rfl⟩, rfl, rfl⟩
  · refine xa_astore_n (pc := 5) dX7_fall_5 (by decide) ?_
    refine xa_aload_n (pc := 6) dX7_fall_6 rfl ?_
    refine xa_ifnull_ref (pc := 7) dX7_fall_7 ?_
    refine xa_aload_n (pc := 10) dX7_fall_10 rfl ?_
    refine xa_getIv (pc := 11) 3 8 _ lfX7_95 dX7_fall_11 ((hX.hS (isH_lt hX.h100 hq2)).1 0 (by decide)) (kd_0 _) rfl (hX.h_state (isH_lt hX.h100 hq2)) ?_
    refine xa_if_ne (pc := 14) 19 dX7_fall_14 (by decide) (fun h14 => ?_) (fun h14 => ?_)
    · refine xa_iconst (pc := 19) (v := 0) dX7_fall_19 (by decide) ?_
      refine xa_istore_n (pc := 20) dX7_fall_20 (by decide) ?_
      rw [show xm_fall nh ns S h = _ from if_pos (by simp [hX.x0 (isH_lt hX.h100 hq2), hq2, h14])]
      exact lx_fall E (isH_eq hX.h100 hq2) (isH_lt hX.h100 hq2) 0 (Nat.zero_le _) _ _ hX rfl
    · refine xa_iconst (pc := 17) (v := 0) dX7_fall_17 (by decide) ?_
      rw [show xm_fall nh ns S h = _ from if_neg (by simp [hX.x0 (isH_lt hX.h100 hq2), hq2, h14])]
      exact xa_zret dX7_fall_18 rfl (by decide) ⟨rfl, hX⟩
  · refine xa_astore_nN (pc := 5) dX7_fall_5 (by decide) ?_
    refine xa_aload_nN (pc := 6) dX7_fall_6 rfl ?_
    refine xa_ifnull_null (pc := 7) 17 dX7_fall_7 (by decide) ?_
    refine xa_iconst (pc := 17) (v := 0) dX7_fall_17 (by decide) ?_
    rw [show xm_fall nh ns S h = _ from if_neg (by simp [hq2])]
    exact xa_zret dX7_fall_18 rfl (by decide) ⟨rfl, hX⟩
theorem lp_comm {α : Type} {f : Nat → α → α} {g : α → α} (h : ∀ i S, f i (g S) = g (f i S)) : ∀ n S, xa_lp f n (g S) = g (xa_lp f n S)
  | 0, S => rfl
  | n + 1, S => by rw [xa_lp, xa_lp, lp_comm h n S, h]
theorem le1_comm {h : Int32} {j : Nat} {v : Int32} (i : Nat) (S : xa_AH) : xm_le1 h i (xa_up S 137 j v) = xa_up (xm_le1 h i S) 137 j v := by
  have e1 : xa_up S 137 j v 146 = S 146 := up_o (by decide)
  have e2 : xa_up S 137 j v 151 = S 151 := up_o (by decide)
  have e3 : xa_up S 137 j v 155 = S 155 := up_o (by decide)
  unfold xm_le1
  rw [e1, e2, goes_e, goes_e, e2, e3]
  split
  · rw [up_comm (a := 137) (b := 155) (by decide), up_comm (a := 137) (b := 151) (by decide), up_comm (a := 137) (b := 152) (by decide), up_comm (a := 137) (b := 153) (by decide)]
  · rfl
theorem le2_comm {h : Int32} {j : Nat} {v : Int32} (i : Nat) (S : xa_AH) : xm_le2 h i (xa_up S 137 j v) = xa_up (xm_le2 h i S) 137 j v := by
  have e1 : xa_up S 137 j v 136 = S 136 := up_o (by decide)
  have e2 : xa_up S 137 j v 141 = S 141 := up_o (by decide)
  have e3 : xa_up S 137 j v 130 = S 130 := up_o (by decide)
  unfold xm_le2 xm_wakes
  rw [e1, e2, e3]
  split
  · rw [up_comm (a := 137) (b := 136) (by decide), up_comm (a := 137) (b := 141) (by decide), up_comm (a := 137) (b := 130) (by decide)]
  · rfl
theorem le2_e {nh ns k : Nat} {pw : Nat → Nat} {L : List Nat} {T : xa_AH} {R : xa_AR} {S : xa_AH} (hX : RX nh ns k pw L T R S) {h : Int32} {x : Nat} (hx : x < nh) (eh : h = nI (xc h)) (hb : xc h < nh) (hR : R (ci x 0) 10 = some (ci (xc h) 0)) : xm_le2 h x S = xm_yl4 S x := by
  unfold xm_le2 xm_yl4
  by_cases g : S 136 x = 1
  · have e := hX.h_px1 hx g
    rw [hR] at e
    have e1 : xc h = xc (S 141 x) := ci_i.mp (Option.some.inj e)
    have e2 : S 141 x = h := by rw [hX.pxe hx g, ← e1, ← eh]
    rw [if_pos ⟨g, e2⟩, if_pos g]
  · rw [if_neg (fun q => g q.1), if_neg g]
theorem le2_n {nh ns k : Nat} {pw : Nat → Nat} {L : List Nat} {T : xa_AH} {R : xa_AR} {S : xa_AH} (hX : RX nh ns k pw L T R S) {h : Int32} {x : Nat} (hx : x < nh) (eh : h = nI (xc h)) (hR : ¬ R (ci x 0) 10 = some (ci (xc h) 0)) : xm_le2 h x S = S := by
  unfold xm_le2
  rw [if_neg]
  rintro ⟨g, e⟩
  have e1 := hX.h_px1 hx g
  rw [e] at e1; exact hR e1
theorem yl4_a {S : xa_AH} {x a : Nat} (h1 : a ≠ 136) (h2 : a ≠ 141) (h3 : a ≠ 130) : xm_yl4 S x a = S a := by
  unfold xm_yl4 xm_wakes; split
  · rw [up_o h3, up_o h2, up_o h1]
  · rfl
theorem yl4_h {S : xa_AH} {x y : Nat} : xm_yl4 S x 136 y = 1 → S 136 y = 1 ∧ y ≠ x := by
  unfold xm_yl4 xm_wakes; split
  · rw [up_o (by decide), up_o (by decide), up_S]
    split
    · intro g; exact absurd g (by decide)
    · next q => intro g; exact ⟨g, fun e => q ⟨rfl, e⟩⟩
  · next q => intro g; exact ⟨g, fun e => q (e ▸ g)⟩
theorem yl4_141 {S : xa_AH} {x y : Nat} (h : y ≠ x) : xm_yl4 S x 141 y = S 141 y := by
  unfold xm_yl4 xm_wakes; split
  · rw [up_o (by decide), up_k h, up_o (by decide)]
  · rfl
theorem yl4_136 {S : xa_AH} {x y : Nat} (h : S 136 y = 2) : xm_yl4 S x 136 y = 2 := by
  unfold xm_yl4 xm_wakes; split
  · rw [up_o (by decide), up_o (by decide), up_S]
    split
    · rfl
    · exact h
  · exact h
def lv_1 (ns : Nat) (h : Int32) (x : Nat) (U : xa_AH) : Prop := U 136 (xc h) = 2 ∧ ∀ s, s < x → xc (U 146 s) = xc h → U 151 s = 0
def lv_2 (ns : Nat) (h : Int32) (x : Nat) (U : xa_AH) : Prop := lv_1 ns h ns U ∧ ∀ y, y < x → U 136 y = 1 → ¬ xc (U 141 y) = xc h
theorem lv_goes {ns : Nat} {h : Int32} {x : Nat} {U : xa_AH} {b : Int32} (q : lv_1 ns h x U) : lv_1 ns h (x + 1) (xm_goes U x b) := by
  rw [goes_e]
  refine ⟨q.1, fun s hs => ?_⟩
  simp only [up_S, Nat.reduceEqDiff, true_and, false_and, and_false, if_false, and_true, reduceIte]
  intro e
  by_cases g : s = x
  · simp [g]
  · simp only [g, if_false]; exact q.2 s (by omega) e
theorem lv_skip {ns : Nat} {h : Int32} {x : Nat} {U : xa_AH} (q : lv_1 ns h x U) (g : xc (U 146 x) = xc h → U 151 x = 0) : lv_1 ns h (x + 1) U := ⟨q.1, fun s hs e => by
  by_cases c : s = x
  · subst c; exact g e
  · exact q.2 s (by omega) e⟩
set_option maxHeartbeats 4000000 in
theorem lx_leave2 (E : xa_EV) {L : List Nat} {R : xa_AR} {nh ns : Nat} {pw : Nat → Nat} {S : xa_AH} {h : Int32} (eh : h = nI (xc h)) (hb : xc h < nh) : ∀ x, x ≤ nh → ∀ T U, RX nh ns 0 pw L T R U → U = xa_lp (xm_le2 h) x S → lv_2 ns h x U → xa_W E mX7_leave (xa_Z E mX7_leave L (PX nh ns 0 pw L (.int 1) (xa_up (xa_lp (xm_le2 h) nh (S)) 137 (xc h) 1))) 0 0 52 [some (.ref (ci 0 129)), some (.int h), some (.ref (ci (xc h) 0)), some (.int (nI x))] [] L T R := by
  refine xa_dn (fun x hx ih => ?_)
  intro T U hX eU hI
  have n12 := hX.n12
  have n32 := hX.n32
  refine xa_iload_n (pc := 52) dX7_leave_52 rfl ?_
  refine xa_aload_n (pc := 53) dX7_leave_53 rfl ?_
  refine xa_getIv (pc := 54) 7 2 _ lfX7_25 dX7_leave_54 hX.c_m129 (kd_129 _) rfl hX.g_nh ?_
  refine xa_icmpN_ge (pc := 57) 89 x nh dX7_leave_57 (by decide) rfl rfl (by omega) (by omega) (fun h57 => ?_) (fun h57 => ?_)
  · have g57 : ¬ (x < nh) := by omega
    refine xa_aload_n (pc := 89) dX7_leave_89 rfl ?_
    refine xa_iconst (pc := 90) (v := 3) dX7_leave_90 (by decide) ?_
    refine xa_putI (pc := 91) 3 8 lpX7_95 dX7_leave_91 ((hX.hS hb).1 0 (by decide)) (kd_0 _) rfl rfl rfl ?_
    refine xa_iconst (pc := 94) (v := 1) dX7_leave_94 (by decide) ?_
    have ex : x = nh := by omega
    subst ex
    exact xa_zret dX7_leave_95 rfl (by decide) ⟨rfl, by rw [← eU]; exact rx_leaveF hX hb rfl hI.1.1 (fun s hs e => hI.1.2 s hs e) (fun y hy g => hI.2 y hy g)⟩
  · refine xa_aload_n (pc := 60) dX7_leave_60 rfl ?_
    refine xa_getA (pc := 61) 7 0 (ci 0 126) lfX7_11 dX7_leave_61 hX.c_m129 (kd_129 _) rfl hX.c_r0 ?_
    refine xa_iload_n (pc := 64) dX7_leave_64 rfl ?_
    refine xa_aaldH (pc := 65) x (ci x 0) dX7_leave_65 hX.c_m126 rfl (by omega) (hX.hA (by omega)) ?_
    refine xa_getR (pc := 66) 3 10 _ lfX7_96 dX7_leave_66 ((hX.hS (by omega)).1 0 (by decide)) (kd_0 _) rfl rfl ?_
    refine xa_aload_n (pc := 69) dX7_leave_69 rfl ?_
    refine xa_acmp_ne (pc := 70) (rx := (R (ci x 0) 10)) (ry := (some (ci (xc h) 0))) 83 dX7_leave_70 (by decide) (fun a ha => by obtain ⟨j, hj, e⟩ := hX.h_px (h := x) (by omega) a ha; rw [e]; exact (hX.hS hj).1 0 (by decide)) (fun a ha => Option.some.inj ha ▸ ((hX.hS hb).1 0 (by decide))) (fun h70 => ?_) (fun h70 => ?_)
    · refine xa_iinc (pc := 83) (v := nI (x + 1)) dX7_leave_83 rfl (by decide) (nI_1 _) ?_
      refine xa_goto (pc := 86) (tgt := 52) dX7_leave_86 (by decide) ?_
      exact xa_fgk (ih (by omega) _ _ hX (by rw [xa_lp, ← eU, le2_n hX (by omega) eh h70]) ⟨hI.1, fun y hy g => by
        by_cases c : y = x
        · subst c; intro e; apply h70; rw [hX.h_px1 (by omega) g, e]
        · exact hI.2 y (by omega) g⟩) (And.intro rfl (And.intro rfl (And.intro rfl (And.intro rfl trivial))))
    · refine xa_aload_n (pc := 73) dX7_leave_73 rfl ?_
      refine xa_aload_n (pc := 74) dX7_leave_74 rfl ?_
      refine xa_getA (pc := 75) 7 0 (ci 0 126) lfX7_11 dX7_leave_75 hX.c_m129 (kd_129 _) rfl hX.c_r0 ?_
      refine xa_iload_n (pc := 78) dX7_leave_78 rfl ?_
      refine xa_aaldH (pc := 79) x (ci x 0) dX7_leave_79 hX.c_m126 rfl (by omega) (hX.hA (by omega)) ?_
      refine xa_callV (pc := 80) hX.c_m129 (kd_129 _) rfl lcX7_118 dX7_leave_80 (cx_rouse E hX (by omega)) rfl rfl (by decide) (Nat.le_of_ble_eq_true rfl) (by decide) ?_
      rintro _ _ _ ⟨rfl, rfl, hX2, _⟩
      refine xa_iinc (pc := 83) (v := nI (x + 1)) dX7_leave_83 rfl (by decide) (nI_1 _) ?_
      refine xa_goto (pc := 86) (tgt := 52) dX7_leave_86 (by decide) ?_
      exact xa_fgk (ih (by omega) _ _ hX2 (by rw [xa_lp, ← eU, le2_e hX (by omega) eh hb h70]) ⟨⟨yl4_136 hI.1.1, fun s hs => by rw [yl4_a (by decide) (by decide) (by decide), yl4_a (by decide) (by decide) (by decide)]; exact hI.1.2 s hs⟩, fun y hy g => by have w := yl4_h g; rw [yl4_141 w.2]; exact hI.2 y (by have := w.2; omega) w.1⟩) (And.intro rfl (And.intro rfl (And.intro rfl (And.intro rfl trivial))))
set_option maxHeartbeats 4000000 in
theorem lx_leave1 (E : xa_EV) {L : List Nat} {R : xa_AR} {nh ns : Nat} {pw : Nat → Nat} {S : xa_AH} {h : Int32} (eh : h = nI (xc h)) (hb : xc h < nh) : ∀ x, x ≤ ns → ∀ T U, RX nh ns 0 pw L T R U → U = xa_lp (xm_le1 h) x S → lv_1 ns h x U → xa_W E mX7_leave (xa_Z E mX7_leave L (PX nh ns 0 pw L (.int 1) (xa_up (xa_lp (xm_le2 h) nh (xa_lp (xm_le1 h) ns S)) 137 (xc h) 1))) 0 0 14 [some (.ref (ci 0 129)), some (.int h), some (.ref (ci (xc h) 0)), some (.int (nI x))] [] L T R := by
  refine xa_dn (fun x hx ih => ?_)
  intro T U hX eU hI
  have n12 := hX.n12
  have n32 := hX.n32
  refine xa_iload_n (pc := 14) dX7_leave_14 rfl ?_
  refine xa_aload_n (pc := 15) dX7_leave_15 rfl ?_
  refine xa_getIv (pc := 16) 7 3 _ lfX7_103 dX7_leave_16 hX.c_m129 (kd_129 _) rfl hX.g_ns ?_
  refine xa_icmpN_ge (pc := 19) 50 x ns dX7_leave_19 (by decide) rfl rfl (by omega) (by omega) (fun h19 => ?_) (fun h19 => ?_)
  · have g19 : ¬ (x < ns) := by omega
    refine xa_iconst (pc := 50) (v := 0) dX7_leave_50 (by decide) ?_
    refine xa_istore_n (pc := 51) dX7_leave_51 (by decide) ?_
    have ex : x = ns := by omega
    subst ex
    rw [← eU]
    exact lx_leave2 E eh hb 0 (Nat.zero_le _) _ _ hX rfl ⟨hI, fun y hy => absurd hy (Nat.not_lt_zero y)⟩
  · refine xa_aload_n (pc := 22) dX7_leave_22 rfl ?_
    refine xa_getA (pc := 23) 7 1 (ci 0 127) lfX7_17 dX7_leave_23 hX.c_m129 (kd_129 _) rfl hX.c_r1 ?_
    refine xa_iload_n (pc := 26) dX7_leave_26 rfl ?_
    refine xa_aaldS (pc := 27) x (ci x 128) dX7_leave_27 hX.c_m127 rfl (by omega) (hX.sA (by omega)) ?_
    refine xa_getA (pc := 28) 5 1 (ci (xc (U 146 x)) 0) lfX7_106 dX7_leave_28 (hX.sM (by omega)) (kd_128 _) rfl (hX.s_host (by omega)) ?_
    refine xa_aload_n (pc := 31) dX7_leave_31 rfl ?_
    refine xa_acmpC_ne (pc := 32) 44 (x := (ci (xc (U 146 x)) 0)) (y := (ci (xc h) 0)) dX7_leave_32 (by decide) ((hX.hS (hX.hO (by omega))).1 0 (by decide)) ((hX.hS hb).1 0 (by decide)) (fun h32 => ?_) (fun h32 => ?_)
    · have h32 : ¬ ((xc (U 146 x)) = (xc h)) := fun q => h32 (ci_i.mpr q)
      refine xa_iinc (pc := 44) (v := nI (x + 1)) dX7_leave_44 rfl (by decide) (nI_1 _) ?_
      refine xa_goto (pc := 47) (tgt := 14) dX7_leave_47 (by decide) ?_
      exact xa_fgk (ih (by omega) _ _ hX (by rw [xa_lp, ← eU, xm_le1, if_neg (fun q => h32 (by rw [own3 hX (by omega) eh hb] at q; exact q.1))]) (lv_skip hI (fun e => absurd e h32))) (And.intro rfl (And.intro rfl (And.intro rfl (And.intro rfl trivial))))
    · have h32 := ci_i.mp h32
      refine xa_aload_n (pc := 35) dX7_leave_35 rfl ?_
      refine xa_getA (pc := 36) 7 1 (ci 0 127) lfX7_17 dX7_leave_36 hX.c_m129 (kd_129 _) rfl hX.c_r1 ?_
      refine xa_iload_n (pc := 39) dX7_leave_39 rfl ?_
      refine xa_aaldS (pc := 40) x (ci x 128) dX7_leave_40 hX.c_m127 rfl (by omega) (hX.sA (by omega)) ?_
      refine xa_callV (pc := 41) (hX.sM (by omega)) (kd_128 _) rfl lcX7_50 dX7_leave_41 (cx_end E (hX.sM (by omega))) rfl rfl (by decide) (Nat.le_of_ble_eq_true rfl) (by decide) ?_
      rintro _ _ _ ⟨rfl, rfl, rfl⟩
      refine xa_iinc (pc := 44) (v := nI (x + 1)) dX7_leave_44 rfl (by decide) (nI_1 _) ?_
      refine xa_goto (pc := 47) (tgt := 14) dX7_leave_47 (by decide) ?_
      by_cases hg : U 151 x = 0
      · rw [end_same hX (by omega) hg]
        exact xa_fgk (ih (by omega) _ _ hX (by rw [xa_lp, ← eU, xm_le1, if_neg (fun q => q.2 hg)]) (lv_skip hI (fun _ => hg))) (And.intro rfl (And.intro rfl (And.intro rfl (And.intro rfl trivial))))
      · exact xa_fgk (ih (by omega) _ _ (rx_end hX (by omega)) (by rw [xa_lp, ← eU, xm_le1, if_pos ⟨by rw [own3 hX (by omega) eh hb]; exact h32, hg⟩]) (lv_goes hI)) (And.intro rfl (And.intro rfl (And.intro rfl (And.intro rfl trivial))))
set_option maxHeartbeats 4000000 in
theorem cx_leave (E : xa_EV) {L : List Nat} {T : xa_AH} {R : xa_AR} {nh ns : Nat} {pw : Nat → Nat} {S : xa_AH} (hX : RX nh ns 0 pw L T R S) (h : Int32) : xa_Ct E mX7_leave [.ref (ci 0 129), .int h] L T R (PX nh ns 0 pw L (.int (xa_b (xm_leave nh ns S h).1)) (xm_leave nh ns S h).2) := by
  refine xa_Ct.of [some (.ref (ci 0 129)), some (.int h), none, none] rfl (Nat.le_of_ble_eq_true rfl) (by simp [Value.category]) rfl ?_
  have n12 := hX.n12
  have n32 := hX.n32
  refine xa_aload_n (pc := 0) dX7_leave_0 rfl ?_
  refine xa_iload_n (pc := 1) dX7_leave_1 rfl ?_
  refine xa_callV (pc := 2) hX.c_m129 (kd_129 _) rfl lcX7_115 dX7_leave_2 (cx_stayingHost E hX _) rfl rfl (by decide) (Nat.le_of_ble_eq_true rfl) (by decide) ?_
  rintro _ _ _ ⟨⟨hq2, rfl⟩ | ⟨hq2, rfl⟩, rfl, rfl⟩
  · refine xa_astore_n (pc := 5) dX7_leave_5 (by decide) ?_
    refine xa_aload_n (pc := 6) dX7_leave_6 rfl ?_
    refine xa_ifnonnull_ref (pc := 7) 12 dX7_leave_7 (by decide) ?_
    refine xa_iconst (pc := 12) (v := 0) dX7_leave_12 (by decide) ?_
    refine xa_istore_n (pc := 13) dX7_leave_13 (by decide) ?_
    rw [show xm_leave nh ns S h = _ from if_pos hq2]
    have eh := isH_eq hX.h100 (xm_up_h hq2)
    have xh := hq2
    rw [xm_up_e (xm_up_h hq2)] at xh
    have xh := xs2.mp (of_decide_eq_true xh)
    show xa_W _ _ (xa_Z _ _ _ (PX _ _ _ _ _ _ (xa_lp (xm_le2 h) nh (xa_lp (xm_le1 h) ns (xa_up S 137 (xc h) 1))))) _ _ _ _ _ _ _ _
    rw [lp_comm (f := xm_le1 h) (g := fun S => xa_up S 137 (xc h) 1) (fun i S => le1_comm i S), lp_comm (f := xm_le2 h) (g := fun S => xa_up S 137 (xc h) 1) (fun i S => le2_comm i S)]
    exact lx_leave1 E eh (aw_lt hX.h100 hq2) 0 (Nat.zero_le _) _ _ hX rfl ⟨xh.1, fun y hy => absurd hy (Nat.not_lt_zero y)⟩
  · refine xa_astore_nN (pc := 5) dX7_leave_5 (by decide) ?_
    refine xa_aload_nN (pc := 6) dX7_leave_6 rfl ?_
    refine xa_ifnonnull_null (pc := 7) dX7_leave_7 ?_
    refine xa_iconst (pc := 10) (v := 0) dX7_leave_10 (by decide) ?_
    rw [show xm_leave nh ns S h = _ from if_neg (by simp [hq2])]
    exact xa_zret dX7_leave_11 rfl (by decide) ⟨rfl, hX⟩
