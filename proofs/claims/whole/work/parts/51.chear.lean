theorem up_up {T : xa_AH} {a k : Nat} {v w : Int32} : xa_up (xa_up T a k v) a k w = xa_up T a k w := by
  funext x y; simp only [xa_up]; split <;> rfl
/-- what stays while host h hears -/
def HI (nh h : Nat) (t net : Int32) (U : xa_AH) : Prop := U 136 h = 2 ∧ U 130 36 = t ∧ (∀ i, i < nh → U 137 i = 0) ∧ U 131 h = net
theorem HI_up {nh h a j : Nat} {t net v : Int32} {U : xa_AH} (g : HI nh h t net U) (ha : a ≠ 130 ∧ a ≠ 131 ∧ a ≠ 136 ∧ a ≠ 137) : HI nh h t net (xa_up U a j v) := by
  unfold HI
  rw [up_o (Ne.symm ha.1), up_o (Ne.symm ha.2.1), up_o (Ne.symm ha.2.2.1), up_o (Ne.symm ha.2.2.2)]; exact g
theorem HI_c {nh h j : Nat} {t net v : Int32} {U : xa_AH} (g : HI nh h t net U) (hj : j ≠ 36) : HI nh h t net (xa_up U 130 j v) := by
  unfold HI
  rw [up_k (Ne.symm hj), up_o (by decide), up_o (by decide), up_o (by decide)]; exact g
theorem HI_due {nh h x s : Nat} {t net d : Int32} {U : xa_AH} (g : HI nh h t net U) : HI nh h t net (xm_due U x s d) := by
  unfold xm_due; split
  · exact HI_up g (by decide)
  · exact g
theorem HI_yld {nh h ns s : Nat} {t net : Int32} {U : xa_AH} (g : HI nh h t net U) : HI nh h t net (xm_yld ns U s) :=
  ⟨yld_136 g.1, yld_36.trans g.2.1, by rw [yld_a (by decide) (by decide) (by decide) (by decide)]; exact g.2.2.1, by rw [yld_a (by decide) (by decide) (by decide) (by decide)]; exact g.2.2.2⟩
theorem HI_lp {nh h n : Nat} {t net : Int32} {U : xa_AH} {f : Nat → xa_AH → xa_AH} (g : HI nh h t net U) (hf : ∀ i V, HI nh h t net V → HI nh h t net (f i V)) : HI nh h t net (xa_lp f n U) := xa_lp_inv g (fun i V _ w => hf i V w)
theorem HI_hc1 {nh h ns x s i : Nat} {t net n d : Int32} {U : xa_AH} (g : HI nh h t net U) : HI nh h t net (xm_hc1 ns x s n d i U) := by
  unfold xm_hc1; split
  · exact g
  · split
    · exact HI_due g
    · split
      · exact HI_yld g
      · exact g
theorem HI_ht1 {nh h ns x s i : Nat} {t net n d : Int32} {U : xa_AH} (g : HI nh h t net U) : HI nh h t net (xm_ht1 ns x s n d i U) := by
  unfold xm_ht1; split
  · exact g
  · split
    · exact HI_yld g
    · exact HI_due g
theorem HI_ha {nh h ns x l kd n2 : Nat} {t net d : Int32} {U : xa_AH} (g : HI nh h t net U) : HI nh h t net (xm_ha n2 ns x l kd d U) := by
  have g1 : HI nh h t net (if ¬ U 164 (16 * x + kd) = 0 ∧ U 165 (16 * x + kd) = U 180 (16 * l + kd) ∧ U 181 (16 * l + kd) &&& (xm_kn ns U x (nI kd) d ^^^ (-1)) = 0 then xa_up U 164 (16 * x + kd) 0 else U) := by
    split
    · exact HI_up g (by decide)
    · exact g
  unfold xm_ha xm_haD xm_haC
  generalize (if ¬ U 164 (16 * x + kd) = 0 ∧ U 165 (16 * x + kd) = U 180 (16 * l + kd) ∧ U 181 (16 * l + kd) &&& (xm_kn ns U x (nI kd) d ^^^ (-1)) = 0 then xa_up U 164 (16 * x + kd) 0 else U) = V at g1 ⊢
  split
  · unfold xm_haB
    refine HI_lp g1 (fun i W w => ?_)
    unfold xm_ha1; split
    · exact w
    · split
      · split
        · exact HI_due w
        · exact w
      · split
        · exact HI_due w
        · exact w
  · exact g1
theorem HI_ht {nh h ns x s row : Nat} {t net d : Int32} {U : xa_AH} (g : HI nh h t net U) : HI nh h t net (xm_ht ns x s row d U) := by
  unfold xm_ht; split
  · have g1 : HI nh h t net (xa_lp (xm_ht1 ns x s (U 187 row) d) ns U) := HI_lp g (fun i V w => HI_ht1 w)
    generalize U 187 row = n0 at g1 ⊢
    generalize U 189 row = d0
    generalize xa_lp (xm_ht1 ns x s n0 d) ns U = V at g1 ⊢
    unfold xm_htD
    have g2 : HI nh h t net (if 2 * d0 < V 150 s then V else xa_up V 163 (32 * x + s) (-1)) := by
      split
      · exact g1
      · exact HI_up g1 (by decide)
    generalize (if 2 * d0 < V 150 s then V else xa_up V 163 (32 * x + s) (-1)) = W at g2 ⊢
    unfold xm_htC; split
    · exact g2
    · unfold xm_htB; split
      · exact HI_c g2 (by decide)
      · unfold xm_htS
        have g3 : HI nh h t net (xa_lp (xm_ht3 x s n0) ns W) := HI_lp g2 (fun i Z z => by
          unfold xm_ht3; split
          · exact z
          · exact HI_up z (by decide))
        exact HI_up (HI_up (HI_up (HI_up (HI_up g3 (by decide)) (by decide)) (by decide)) (by decide)) (by decide)
  · exact HI_c g (by decide)
theorem HI_he3 {nh h x l i : Nat} {t net : Int32} {U : xa_AH} (g : HI nh h t net U) : HI nh h t net (xm_he3 x l i U) := by
  unfold xm_he3; split
  · exact g
  · exact HI_up g (by decide)
/-! byes -/
def clrN (U : xa_AH) (l : Nat) (x : Int32) : Nat → Int32
  | 0 => x
  | n + 1 => if U 185 (32 * l + n) = 0 then clrN U l x n else bclr (clrN U l x n) n
theorem clrN_b {U : xa_AH} {l : Nat} {x : Int32} : ∀ n, n ≤ 32 → ∀ i, bt (clrN U l x n) i = (bt x i && !(decide (i < n) && decide (¬ U 185 (32 * l + i) = 0)))
  | 0, _, i => by simp [clrN]
  | n + 1, hn, i => by
    have ih := clrN_b (U := U) (l := l) (x := x) n (by omega) i
    rw [clrN]
    by_cases e : i = n
    · subst e
      split
      · next g => rw [ih]; simp [g]
      · next g => rw [bt_bclr (by omega)]; simp [g]
    · have e2 : decide (i < n + 1) = decide (i < n) := by congr 1; exact propext (by omega)
      rw [e2]
      split
      · exact ih
      · rw [bt_bclr (by omega), ih]; simp [e]
theorem he3_185 {h l : Nat} {S : xa_AH} {n : Nat} {a : Nat} (ha : a ≠ 158) : xa_lp (xm_he3 h l) n S a = S a := by
  refine xa_lp_inv (I := fun (V : xa_AH) => V a = S a) rfl (fun i V _ w => ?_)
  unfold xm_he3; split
  · exact w
  · rw [up_o ha]; exact w
theorem rx_byes {nh ns k : Nat} {pw : Nat → Nat} {L : List Nat} {T : xa_AH} {R : xa_AR} {S : xa_AH} (hX : RX nh ns k pw L T R S) {h l q : Nat} {nb : Int32} (hh : h < nh) (hl : lr T q S l nb) : RX nh ns k pw L (xa_up T (ci h 1) 4 (T (ci h 1) 4 &&& (T q 8 ^^^ (-1)))) R (xa_lp (xm_he3 h l) ns S) := by
  have n32 := hX.n32
  have key : ∀ n, n ≤ ns → RX nh ns k pw L (xa_up T (ci h 1) 4 (clrN S l (T (ci h 1) 4) n)) R (xa_lp (xm_he3 h l) n S) := by
    intro n
    induction n with
    | zero => intro _; rw [show clrN S l (T (ci h 1) 4) 0 = T (ci h 1) 4 from rfl, up_same rfl]; exact hX
    | succ n ih =>
      intro hn
      have h1 := ih (by omega)
      rw [xa_lp, xm_he3, he3_185 (by decide), clrN]
      by_cases g : S 185 (32 * l + n) = 0
      · rw [if_pos g, if_pos g]; exact h1
      · rw [if_neg g, if_neg g]
        have h2 := rx_recrem h1 hh (show n < 32 by omega)
        rw [up_s, up_up] at h2
        exact h2
  have e : T (ci h 1) 4 &&& (T q 8 ^^^ (-1)) = clrN S l (T (ci h 1) 4) ns := by
    apply b_ext
    intro i hi
    rw [clrN_b ns n32, b_and, b_xor, b_m1 i hi, (hl.2.2 i hi).2.1.1]
    by_cases c : i < ns
    · simp [c]
    · have : bt (T (ci h 1) 4) i = false := by
        rw [hX.r_held hh hi]
        have : ¬ ¬ S 158 (32 * h + i) = 0 := fun w => c (hX.ir_lt hh hi w).1
        simp [this]
      simp [this]
  rw [e]; exact key ns (Nat.le_refl _)
theorem lp_id {f : Nat → xa_AH → xa_AH} {S : xa_AH} {n : Nat} (h : ∀ i, i < n → f i S = S) : xa_lp f n S = S := by
  induction n with
  | zero => rfl
  | succ n ih => rw [xa_lp, ih (fun i hi => h i (by omega)), h n (by omega)]
set_option maxHeartbeats 4000000 in
theorem lx_hl116 (E : xa_EV) {L : List Nat} {T0 : xa_AH} {R : xa_AR} {nh ns k : Nat} {pw : Nat → Nat} {h w l q : Nat} (hh : h < nh) (hw : w < nh) (hne : h ≠ w) (hq : cs_l L R q) (hlq : lcell q ∧ q % 16 = 0) (t : Int32) (hrow : ∀ T2 S2, RX nh ns k pw L T2 R S2 → T2 q = T0 q → lrow T2 S2 w q l) {S : xa_AH} : ∀ x, x ≤ ns → ∀ T U, RX nh ns k pw L T R U → U = xa_lp (xm_he4 ns h l t) x S → HI nh h t (T0 q 0) U → fl T0 T → xa_W E mX7_hearLetter (xa_Z E mX7_hearLetter L (PF nh ns k pw L T0 R (xa_lp (xm_he4 ns h l t) ns S))) 0 0 116 [some (.ref (ci 0 129)), some (.ref (ci h 0)), some (.ref (ci w 0)), some (.ref q), some (.int (nI x))] [] L T R := by
  refine xa_dn (fun x hx ih => ?_)
  intro T U hX eU hI hfl
  have n12 := hX.n12
  have n32 := hX.n32
  have eq0 : T q = T0 q := hfl q hlq.1
  have hr := hrow T U hX eq0
  refine xa_iload (pc := 116) dX7_hearLetter_116 rfl ?_
  refine xa_aload_n (pc := 118) dX7_hearLetter_118 rfl ?_
  refine xa_getIv (pc := 119) 7 3 _ lfX7_103 dX7_hearLetter_119 hX.c_m129 (kd_129 _) rfl hX.g_ns ?_
  refine xa_icmpN_ge (pc := 122) 153 x ns dX7_hearLetter_122 (by decide) rfl rfl (by omega) (by omega) (fun h122 => ?_) (fun h122 => ?_)
  · have g122 : ¬ (x < ns) := by omega
    have ex : x = ns := by omega
    subst ex
    exact xa_vret dX7_hearLetter_153 rfl ⟨rfl, rfl, by rw [← eU]; exact hX, hfl⟩
  · refine xa_aload_n (pc := 125) dX7_hearLetter_125 rfl ?_
    refine xa_iload (pc := 126) dX7_hearLetter_126 rfl ?_
    refine xa_callV (pc := 128) (hq).1 (hq).2.1 rfl lcX7_413 dX7_hearLetter_128 (cx_lhasTelling E hq (s := x) rfl (by omega)) rfl rfl (by decide) (Nat.le_of_ble_eq_true rfl) (by decide) ?_
    rintro _ _ _ ⟨rfl, rfl, rfl⟩
    refine xa_if_eq (pc := 131) 147 dX7_hearLetter_131 (by decide) (fun h131 => ?_) (fun h131 => ?_)
    · have h131 := xa_b_0.mp h131
      refine xa_iinc (pc := 147) (v := nI (x + 1)) dX7_hearLetter_147 rfl (by decide) (nI_1 _) ?_
      refine xa_goto (pc := 150) (tgt := 116) dX7_hearLetter_150 (by decide) ?_
      have nb : ¬ 0 < U 187 (32 * l + x) := by rw [(hr.2.2.2.2.2 x (by omega)).2.2.1] at h131; simpa using h131
      exact xa_fgk (ih (by omega) _ _ hX (by rw [xa_lp, ← eU, xm_he4, if_pos (Int32.not_lt.mp nb)]) hI hfl) (And.intro rfl (And.intro rfl (And.intro rfl (And.intro rfl (And.intro rfl trivial)))))
    · have h131 := xa_b_n0.mp h131
      have hb : 0 < U 187 (32 * l + x) := by rw [(hr.2.2.2.2.2 x (by omega)).2.2.1] at h131; simpa using h131
      have b1 := (hr.2.2.2.2.2 x (by omega)).2.2.2
      refine xa_aload_n (pc := 134) dX7_hearLetter_134 rfl ?_
      refine xa_aload_n (pc := 135) dX7_hearLetter_135 rfl ?_
      refine xa_aload_n (pc := 136) dX7_hearLetter_136 rfl ?_
      refine xa_getA (pc := 137) 7 1 (ci 0 127) lfX7_17 dX7_hearLetter_137 hX.c_m129 (kd_129 _) rfl hX.c_r1 ?_
      refine xa_iload (pc := 140) dX7_hearLetter_140 rfl ?_
      refine xa_aaldS (pc := 142) x (ci x 128) dX7_hearLetter_142 hX.c_m127 rfl (by omega) (hX.sA (by omega)) ?_
      refine xa_aload_n (pc := 143) dX7_hearLetter_143 rfl ?_
      refine xa_callV (pc := 144) hX.c_m129 (kd_129 _) rfl lcX7_416 dX7_hearLetter_144 (cx_hearTelling E (row := 32 * l + x) hX hh hI.1 (by omega) hq hlq (b1 hb).1 (b1 hb).2.1 (b1 hb).2.2.1 (b1 hb).2.2.2.2) rfl rfl (by decide) (Nat.le_of_ble_eq_true rfl) (by decide) ?_
      rintro _ _ _ ⟨rfl, rfl, hX2, hfl2⟩
      refine xa_iinc (pc := 147) (v := nI (x + 1)) dX7_hearLetter_147 rfl (by decide) (nI_1 _) ?_
      refine xa_goto (pc := 150) (tgt := 116) dX7_hearLetter_150 (by decide) ?_
      exact xa_fgk (ih (by omega) _ _ hX2 (by rw [xa_lp, ← eU, xm_he4, if_neg (Int32.not_le.mpr hb), hI.2.1]) (HI_ht hI) (fl_tr hfl hfl2)) (And.intro rfl (And.intro rfl (And.intro rfl (And.intro rfl (And.intro rfl trivial)))))
set_option maxHeartbeats 4000000 in
theorem lx_hl106 (E : xa_EV) {L : List Nat} {T0 : xa_AH} {R : xa_AR} {nh ns k : Nat} {pw : Nat → Nat} {h w l q : Nat} (hh : h < nh) (hw : w < nh) (hne : h ≠ w) (hq : cs_l L R q) (hlq : lcell q ∧ q % 16 = 0) (t : Int32) (hrow : ∀ T2 S2, RX nh ns k pw L T2 R S2 → T2 q = T0 q → lrow T2 S2 w q l) {T U : xa_AH} (hX : RX nh ns k pw L T R U) (hI : HI nh h t (T0 q 0) U) (hfl : fl T0 T) : xa_W E mX7_hearLetter (xa_Z E mX7_hearLetter L (PF nh ns k pw L T0 R (xa_lp (xm_he4 ns h l t) ns U))) 0 0 106 [some (.ref (ci 0 129)), some (.ref (ci h 0)), some (.ref (ci w 0)), some (.ref q), none] [] L T R := by
  have n12 := hX.n12
  have n32 := hX.n32
  have eq0 : T q = T0 q := hfl q hlq.1
  have hr := hrow T U hX eq0
  refine xa_aload_n (pc := 106) dX7_hearLetter_106 rfl ?_
  refine xa_getI (pc := 107) 4 10 lfX7_369 dX7_hearLetter_107 (hq).1 (hq).2.1 rfl ?_
  refine xa_if_eq (pc := 110) 153 dX7_hearLetter_110 (by decide) (fun h110 => ?_) (fun h110 => ?_)
  · rw [lp_id (f := xm_he4 ns h l t) (S := U) (fun i hi => by
      have nb : ¬ 0 < U 187 (32 * l + i) := by
        have e := (hr.2.2.2.2.2 i (by omega)).2.2.1
        rw [h110, b_0] at e; simpa using e.symm
      rw [xm_he4, if_pos (Int32.not_lt.mp nb)])]
    exact xa_vret dX7_hearLetter_153 rfl ⟨rfl, rfl, hX, hfl⟩
  · refine xa_iconst (pc := 113) (v := 0) dX7_hearLetter_113 (by decide) ?_
    refine xa_istore (pc := 114) dX7_hearLetter_114 (by decide) ?_
    exact xa_fgk (lx_hl116 E hh hw hne hq hlq t hrow 0 (Nat.zero_le _) _ _ hX rfl hI hfl) (And.intro rfl (And.intro rfl (And.intro rfl (And.intro rfl (And.intro rfl trivial)))))
set_option maxHeartbeats 4000000 in
theorem lx_hl95 (E : xa_EV) {L : List Nat} {T0 : xa_AH} {R : xa_AR} {nh ns k : Nat} {pw : Nat → Nat} {h w l q : Nat} (hh : h < nh) (hw : w < nh) (hne : h ≠ w) (hq : cs_l L R q) (hlq : lcell q ∧ q % 16 = 0) (t : Int32) (hrow : ∀ T2 S2, RX nh ns k pw L T2 R S2 → T2 q = T0 q → lrow T2 S2 w q l) {T U : xa_AH} (hX : RX nh ns k pw L T R U) (hI : HI nh h t (T0 q 0) U) (hfl : fl T0 T) : xa_W E mX7_hearLetter (xa_Z E mX7_hearLetter L (PF nh ns k pw L T0 R (xa_lp (xm_he4 ns h l t) ns (xa_lp (xm_he3 h l) ns U)))) 0 0 95 [some (.ref (ci 0 129)), some (.ref (ci h 0)), some (.ref (ci w 0)), some (.ref q), none] [] L T R := by
  have n12 := hX.n12
  have n32 := hX.n32
  have eq0 : T q = T0 q := hfl q hlq.1
  have hr := hrow T U hX eq0
  refine xa_aload_n (pc := 95) dX7_hearLetter_95 rfl ?_
  refine xa_getA (pc := 96) 3 4 (ci h 1) lfX7_134 dX7_hearLetter_96 ((hX.hS hh).1 0 (by decide)) (kd_0 _) rfl ((hX.hS hh).2 (0, 4, 1) (by decide)) ?_
  refine xa_aload_n (pc := 99) dX7_hearLetter_99 rfl ?_
  refine xa_getI (pc := 100) 4 8 lfX7_366 dX7_hearLetter_100 (hq).1 (hq).2.1 rfl ?_
  refine xa_callV (pc := 103) ((hX.hS hh).1 1 (by decide)) (kd_1 _) rfl lcX7_410 dX7_hearLetter_103 (cx_removeAll E (hX.hS hh) _) rfl rfl (by decide) (Nat.le_of_ble_eq_true rfl) (by decide) ?_
  rintro _ _ _ ⟨rfl, rfl, rfl⟩
  exact lx_hl106 E hh hw hne hq hlq t hrow (rx_byes hX hh hr.2.2.2) (HI_lp hI (fun i V g => HI_he3 g)) (fl_up hfl (by decide) (by decide))
set_option maxHeartbeats 4000000 in
theorem lx_hl51 (E : xa_EV) {L : List Nat} {T0 : xa_AH} {R : xa_AR} {nh ns k : Nat} {pw : Nat → Nat} {h w l q : Nat} (hh : h < nh) (hw : w < nh) (hne : h ≠ w) (hq : cs_l L R q) (hlq : lcell q ∧ q % 16 = 0) (t : Int32) (hrow : ∀ T2 S2, RX nh ns k pw L T2 R S2 → T2 q = T0 q → lrow T2 S2 w q l) {S : xa_AH} : ∀ x, x ≤ ns → ∀ T U, RX nh ns k pw L T R U → U = xa_lp (xm_he2 ns h l t) x S → HI nh h t (T0 q 0) U → fl T0 T → xa_W E mX7_hearLetter (xa_Z E mX7_hearLetter L (PF nh ns k pw L T0 R (xa_lp (xm_he4 ns h l t) ns (xa_lp (xm_he3 h l) ns (xa_lp (xm_he2 ns h l t) ns S))))) 0 0 51 [some (.ref (ci 0 129)), some (.ref (ci h 0)), some (.ref (ci w 0)), some (.ref q), some (.int (nI x))] [] L T R := by
  refine xa_dn (fun x hx ih => ?_)
  intro T U hX eU hI hfl
  have n12 := hX.n12
  have n32 := hX.n32
  have eq0 : T q = T0 q := hfl q hlq.1
  have hr := hrow T U hX eq0
  refine xa_iload (pc := 51) dX7_hearLetter_51 rfl ?_
  refine xa_aload_n (pc := 53) dX7_hearLetter_53 rfl ?_
  refine xa_getIv (pc := 54) 7 3 _ lfX7_103 dX7_hearLetter_54 hX.c_m129 (kd_129 _) rfl hX.g_ns ?_
  refine xa_icmpN_ge (pc := 57) 95 x ns dX7_hearLetter_57 (by decide) rfl rfl (by omega) (by omega) (fun h57 => ?_) (fun h57 => ?_)
  · have g57 : ¬ (x < ns) := by omega
    have ex : x = ns := by omega
    subst ex
    rw [← eU]
    exact xa_fgk (lx_hl95 E hh hw hne hq hlq t hrow hX hI hfl) (And.intro rfl (And.intro rfl (And.intro rfl (And.intro rfl trivial))))
  · refine xa_aload_n (pc := 60) dX7_hearLetter_60 rfl ?_
    refine xa_iload (pc := 61) dX7_hearLetter_61 rfl ?_
    refine xa_callV (pc := 63) (hq).1 (hq).2.1 rfl lcX7_400 dX7_hearLetter_63 (cx_lhasClaim E hq (s := x) rfl (by omega)) rfl rfl (by decide) (Nat.le_of_ble_eq_true rfl) (by decide) ?_
    rintro _ _ _ ⟨rfl, rfl, rfl⟩
    refine xa_if_eq (pc := 66) 89 dX7_hearLetter_66 (by decide) (fun h66 => ?_) (fun h66 => ?_)
    · have h66 := xa_b_0.mp h66
      refine xa_iinc (pc := 89) (v := nI (x + 1)) dX7_hearLetter_89 rfl (by decide) (nI_1 _) ?_
      refine xa_goto (pc := 92) (tgt := 51) dX7_hearLetter_92 (by decide) ?_
      have nb : ¬ 0 < U 183 (32 * l + x) := by rw [(hr.2.2.2.2.2 x (by omega)).1.1] at h66; simpa using h66
      exact xa_fgk (ih (by omega) _ _ hX (by rw [xa_lp, ← eU, xm_he2, if_pos (Int32.not_lt.mp nb)]) hI hfl) (And.intro rfl (And.intro rfl (And.intro rfl (And.intro rfl (And.intro rfl trivial)))))
    · have h66 := xa_b_n0.mp h66
      have hb : 0 < U 183 (32 * l + x) := by rw [(hr.2.2.2.2.2 x (by omega)).1.1] at h66; simpa using h66
      have b1 := (hr.2.2.2.2.2 x (by omega)).1.2
      refine xa_aload_n (pc := 69) dX7_hearLetter_69 rfl ?_
      refine xa_aload_n (pc := 70) dX7_hearLetter_70 rfl ?_
      refine xa_aload_n (pc := 71) dX7_hearLetter_71 rfl ?_
      refine xa_getA (pc := 72) 7 1 (ci 0 127) lfX7_17 dX7_hearLetter_72 hX.c_m129 (kd_129 _) rfl hX.c_r1 ?_
      refine xa_iload (pc := 75) dX7_hearLetter_75 rfl ?_
      refine xa_aaldS (pc := 77) x (ci x 128) dX7_hearLetter_77 hX.c_m127 rfl (by omega) (hX.sA (by omega)) ?_
      refine xa_aload_n (pc := 78) dX7_hearLetter_78 rfl ?_
      refine xa_getA (pc := 79) 4 6 (q + 7) lfX7_403 dX7_hearLetter_79 (hq).1 (hq).2.1 rfl (cl_r6 hq) ?_
      refine xa_iload (pc := 82) dX7_hearLetter_82 rfl ?_
      refine xa_ialdC (pc := 84) x _ dX7_hearLetter_84 (cl_m6 hq) (cl_k6 hq) (cl_n6 hq) rfl (by omega) (by decide) (b1 hb).1 ?_
      refine xa_iconst (pc := 85) (v := 0) dX7_hearLetter_85 (by decide) ?_
      refine xa_callV (pc := 86) hX.c_m129 (kd_129 _) rfl lcX7_406 dX7_hearLetter_86 (cx_contend0 E hX hh hI.1 (by omega) _) rfl rfl (by decide) (Nat.le_of_ble_eq_true rfl) (by decide) ?_
      rintro _ _ _ ⟨rfl, rfl, hX2, hfl2⟩
      refine xa_iinc (pc := 89) (v := nI (x + 1)) dX7_hearLetter_89 rfl (by decide) (nI_1 _) ?_
      refine xa_goto (pc := 92) (tgt := 51) dX7_hearLetter_92 (by decide) ?_
      exact xa_fgk (ih (by omega) _ _ hX2 (by rw [xa_lp, ← eU, xm_he2, if_neg (Int32.not_le.mpr hb), hI.2.1]; rfl) (HI_lp hI (fun i V g => HI_hc1 g)) (fl_tr hfl hfl2)) (And.intro rfl (And.intro rfl (And.intro rfl (And.intro rfl (And.intro rfl trivial)))))
set_option maxHeartbeats 4000000 in
theorem lx_hl41 (E : xa_EV) {L : List Nat} {T0 : xa_AH} {R : xa_AR} {nh ns k : Nat} {pw : Nat → Nat} {h w l q : Nat} (hh : h < nh) (hw : w < nh) (hne : h ≠ w) (hq : cs_l L R q) (hlq : lcell q ∧ q % 16 = 0) (t : Int32) (hrow : ∀ T2 S2, RX nh ns k pw L T2 R S2 → T2 q = T0 q → lrow T2 S2 w q l) {T U : xa_AH} (hX : RX nh ns k pw L T R U) (hI : HI nh h t (T0 q 0) U) (hfl : fl T0 T) : xa_W E mX7_hearLetter (xa_Z E mX7_hearLetter L (PF nh ns k pw L T0 R (xa_lp (xm_he4 ns h l t) ns (xa_lp (xm_he3 h l) ns (xa_lp (xm_he2 ns h l t) ns U))))) 0 0 41 [some (.ref (ci 0 129)), some (.ref (ci h 0)), some (.ref (ci w 0)), some (.ref q), none] [] L T R := by
  have n12 := hX.n12
  have n32 := hX.n32
  have eq0 : T q = T0 q := hfl q hlq.1
  have hr := hrow T U hX eq0
  refine xa_aload_n (pc := 41) dX7_hearLetter_41 rfl ?_
  refine xa_getI (pc := 42) 4 5 lfX7_365 dX7_hearLetter_42 (hq).1 (hq).2.1 rfl ?_
  refine xa_if_eq (pc := 45) 95 dX7_hearLetter_45 (by decide) (fun h45 => ?_) (fun h45 => ?_)
  · rw [show xa_lp (xm_he2 ns h l t) ns U = U from lp_id (fun i hi => by
      have nb : ¬ 0 < U 183 (32 * l + i) := by
        have e := (hr.2.2.2.2.2 i (by omega)).1.1
        rw [h45, b_0] at e; simpa using e.symm
      rw [xm_he2, if_pos (Int32.not_lt.mp nb)])]
    exact xa_fgk (lx_hl95 E hh hw hne hq hlq t hrow hX hI hfl) (And.intro rfl (And.intro rfl (And.intro rfl (And.intro rfl trivial))))
  · refine xa_iconst (pc := 48) (v := 0) dX7_hearLetter_48 (by decide) ?_
    refine xa_istore (pc := 49) dX7_hearLetter_49 (by decide) ?_
    exact xa_fgk (lx_hl51 E hh hw hne hq hlq t hrow 0 (Nat.zero_le _) _ _ hX rfl hI hfl) (And.intro rfl (And.intro rfl (And.intro rfl (And.intro rfl (And.intro rfl trivial)))))
set_option maxHeartbeats 4000000 in
theorem lx_hl10 (E : xa_EV) {L : List Nat} {T0 : xa_AH} {R : xa_AR} {nh ns k : Nat} {pw : Nat → Nat} {h w l q : Nat} (hh : h < nh) (hw : w < nh) (hne : h ≠ w) (hq : cs_l L R q) (hlq : lcell q ∧ q % 16 = 0) (t : Int32) (hrow : ∀ T2 S2, RX nh ns k pw L T2 R S2 → T2 q = T0 q → lrow T2 S2 w q l) {S : xa_AH} : ∀ x, x ≤ 16 → ∀ T U, RX nh ns k pw L T R U → U = xa_lp (xm_he1 nh ns h l t) x S → HI nh h t (T0 q 0) U → fl T0 T → xa_W E mX7_hearLetter (xa_Z E mX7_hearLetter L (PF nh ns k pw L T0 R (xa_lp (xm_he4 ns h l t) ns (xa_lp (xm_he3 h l) ns (xa_lp (xm_he2 ns h l t) ns (xa_lp (xm_he1 nh ns h l t) 16 S)))))) 0 0 10 [some (.ref (ci 0 129)), some (.ref (ci h 0)), some (.ref (ci w 0)), some (.ref q), some (.int (nI x))] [] L T R := by
  refine xa_dn (fun x hx ih => ?_)
  intro T U hX eU hI hfl
  have n12 := hX.n12
  have n32 := hX.n32
  have eq0 : T q = T0 q := hfl q hlq.1
  have hr := hrow T U hX eq0
  refine xa_iload (pc := 10) dX7_hearLetter_10 rfl ?_
  refine xa_bipush (pc := 12) (v := 16) dX7_hearLetter_12 (by decide) ?_
  refine xa_icmpN_ge (pc := 14) 41 x 16 dX7_hearLetter_14 (by decide) rfl rfl (by omega) (by omega) (fun h14 => ?_) (fun h14 => ?_)
  · have g14 : ¬ (x < 16) := by omega
    have ex : x = 16 := by omega
    subst ex
    rw [← eU]
    exact xa_fgk (lx_hl41 E hh hw hne hq hlq t hrow hX hI hfl) (And.intro rfl (And.intro rfl (And.intro rfl (And.intro rfl trivial))))
  · refine xa_aload_n (pc := 17) dX7_hearLetter_17 rfl ?_
    refine xa_iload (pc := 18) dX7_hearLetter_18 rfl ?_
    refine xa_callV (pc := 20) (hq).1 (hq).2.1 rfl lcX7_393 dX7_hearLetter_20 (cx_lhasAsk E hq (s := x) rfl (by omega)) rfl rfl (by decide) (Nat.le_of_ble_eq_true rfl) (by decide) ?_
    rintro _ _ _ ⟨rfl, rfl, rfl⟩
    refine xa_if_eq (pc := 23) 35 dX7_hearLetter_23 (by decide) (fun h23 => ?_) (fun h23 => ?_)
    · have h23 := xa_b_0.mp h23
      refine xa_iinc (pc := 35) (v := nI (x + 1)) dX7_hearLetter_35 rfl (by decide) (nI_1 _) ?_
      refine xa_goto (pc := 38) (tgt := 10) dX7_hearLetter_38 (by decide) ?_
      have nb : U 179 (16 * l + x) = 0 := by rw [(hr.2.2.2.1 x (by omega)).1] at h23; simpa using h23
      exact xa_fgk (ih (by omega) _ _ hX (by rw [xa_lp, ← eU, xm_he1, if_pos nb]) hI hfl) (And.intro rfl (And.intro rfl (And.intro rfl (And.intro rfl (And.intro rfl trivial)))))
    · have h23 := xa_b_n0.mp h23
      have hb : ¬ U 179 (16 * l + x) = 0 := by rw [(hr.2.2.2.1 x (by omega)).1] at h23; simpa using h23
      have b1 := (hr.2.2.2.1 x (by omega)).2
      refine xa_aload_n (pc := 26) dX7_hearLetter_26 rfl ?_
      refine xa_aload_n (pc := 27) dX7_hearLetter_27 rfl ?_
      refine xa_aload_n (pc := 28) dX7_hearLetter_28 rfl ?_
      refine xa_aload_n (pc := 29) dX7_hearLetter_29 rfl ?_
      refine xa_iload (pc := 30) dX7_hearLetter_30 rfl ?_
      refine xa_callV (pc := 32) hX.c_m129 (kd_129 _) rfl lcX7_396 dX7_hearLetter_32 (cx_hearAsk E (l := l) hX hh hw hq hlq.1 (kd := x) rfl (by omega) hI.2.2.1 hI.1 hne hr.2.1.symm hr.1 (by rw [hI.2.2.2, hr.2.1, eq0]) (b1 hb).1 (b1 hb).2.1) rfl rfl (by decide) (Nat.le_of_ble_eq_true rfl) (by decide) ?_
      rintro _ _ _ ⟨rfl, rfl, hX2, hfl2⟩
      refine xa_iinc (pc := 35) (v := nI (x + 1)) dX7_hearLetter_35 rfl (by decide) (nI_1 _) ?_
      refine xa_goto (pc := 38) (tgt := 10) dX7_hearLetter_38 (by decide) ?_
      exact xa_fgk (ih (by omega) _ _ hX2 (by rw [xa_lp, ← eU, xm_he1, if_neg hb, hI.2.1]) (HI_ha hI) (fl_tr hfl hfl2)) (And.intro rfl (And.intro rfl (And.intro rfl (And.intro rfl (And.intro rfl trivial)))))
set_option maxHeartbeats 4000000 in
theorem cx_hearLetter (E : xa_EV) {L : List Nat} {T : xa_AH} {R : xa_AR} {nh ns k : Nat} {pw : Nat → Nat} {S : xa_AH} (hX : RX nh ns k pw L T R S) {h w l q : Nat} (hh : h < nh) (hw : w < nh) (hne : h ≠ w) (hq : cs_l L R q) (hlq : lcell q ∧ q % 16 = 0) (t : Int32) (hrow : ∀ T2 S2, RX nh ns k pw L T2 R S2 → T2 q = T q → lrow T2 S2 w q l) (hI : HI nh h t (T q 0) S) : xa_Ct E mX7_hearLetter [.ref (ci 0 129), .ref (ci h 0), .ref (ci w 0), .ref q] L T R (PF nh ns k pw L T R (xm_hears nh ns h l t S)) := by
  refine xa_Ct.of [some (.ref (ci 0 129)), some (.ref (ci h 0)), some (.ref (ci w 0)), some (.ref q), none] rfl (Nat.le_of_ble_eq_true rfl) (by simp [Value.category]) rfl ?_
  have n12 := hX.n12
  have n32 := hX.n32
  have hfl : fl T T := fl_rf
  have hr := hrow T S hX rfl
  refine xa_aload_n (pc := 0) dX7_hearLetter_0 rfl ?_
  refine xa_getI (pc := 1) 4 1 lfX7_372 dX7_hearLetter_1 (hq).1 (hq).2.1 rfl ?_
  refine xa_if_eq (pc := 4) 41 dX7_hearLetter_4 (by decide) (fun h4 => ?_) (fun h4 => ?_)
  · rw [show xm_hears nh ns h l t S = xa_lp (xm_he4 ns h l t) ns (xa_lp (xm_he3 h l) ns (xa_lp (xm_he2 ns h l t) ns (S))) from by unfold xm_hears; rw [show xa_lp (xm_he1 nh ns h l t) 16 S = S from lp_id (fun i hi => by
      have nb : S 179 (16 * l + i) = 0 := by
        have e := (hr.2.2.2.1 i (by omega)).1
        rw [h4, b_0] at e; simpa using e.symm
      rw [xm_he1, if_pos nb])]]
    exact xa_fgk (lx_hl41 E hh hw hne hq hlq t hrow hX hI hfl) (And.intro rfl (And.intro rfl (And.intro rfl (And.intro rfl trivial))))
  · refine xa_iconst (pc := 7) (v := 0) dX7_hearLetter_7 (by decide) ?_
    refine xa_istore (pc := 8) dX7_hearLetter_8 (by decide) ?_
    exact xa_fgk (lx_hl10 E hh hw hne hq hlq t hrow 0 (Nat.zero_le _) _ _ hX rfl hI hfl) (And.intro rfl (And.intro rfl (And.intro rfl (And.intro rfl (And.intro rfl trivial)))))
