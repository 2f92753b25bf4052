theorem cnt_0 {c0 u : Int32} {b0 n m : Nat} (h : u = c0 + (nI n - nI b0)) (hm : m = n) : u + 0 = c0 + (nI m - nI b0) := by
  subst hm; rw [h]; simp
theorem tl_e {d : Int32} (hd : vp_in d 201) : (d - 1 ≤ 0) = (d ≤ 1) ∧ (¬ d ≤ 1 → vp_in (d - 1) 201 ∧ 0 < d - 1) := by
  have e : d = nI (xc d) := xa_in_eq hd
  have l : xc d < 201 := xa_in_lt hd
  rw [e]
  generalize xc d = n at l
  have e1 : (nI n - 1).toInt = (n : Int) - 1 := pk_sub_toInt (a := n) (b := 1) (by omega) (by omega)
  have e2 : (nI n).toInt = (n : Int) := nI_toInt (by omega)
  have z0 : (0 : Int32).toInt = 0 := rfl
  have z1 : (1 : Int32).toInt = 1 := rfl
  refine ⟨propext ?_, fun g => ⟨?_, ?_⟩⟩
  · rw [fa_le, fa_le, e1, e2, z0, z1]; omega
  · rw [fa_le, e2, z1] at g; rw [vp_in_iff, e1]; omega
  · rw [fa_le, e2, z1] at g; rw [fa_lt, e1, z0]; omega
set_option maxHeartbeats 1000000 in
theorem tk_ask {nh ns k : Nat} {pw : Nat → Nat} {L : List Nat} {R : xa_AR} {T0 : xa_AH} {c0 : Int32} {b0 : Nat} {T U : xa_AH} {h w l q wq to x o : Nat} {net : Int32} (hJ : TJ nh ns k pw L R q wq T0 c0 b0 T U) (hrow : ∀ T2 S2, RX nh ns k pw L T2 R S2 → T2 q = T0 q → lrow T2 S2 w q l) (hlq : lat w q) (hqw : q ≠ wq) (hh : h < nh) (hb : ¬ U 139 h = 0) (ha : ¬ U 136 h = 0) (hw : wside R h wq to) (hn : net = nI o) (ho : o < 32) (hx : x < 16) (hcar : bt (U 140 h) x = true) : TJ nh ns k pw L R q wq T0 c0 b0 (lx_takeAsk T wq q x o) (xm_cy1 h l to net x U) := by
  obtain ⟨hX, hc, hqq⟩ := hJ
  have hr := hrow T _ hX hqq
  have hap := lat_apart hlq (ws_lat hX hh hb hw) hqw
  have lq := (hr.2.2.2).1 x hx
  have lw := (ws_lr hX hh hb ha hw).1 x hx
  simp only [v_a (show 179 ≠ 130 by decide), v_a (show 180 ≠ 130 by decide), v_a (show 181 ≠ 130 by decide), v_a (show 182 ≠ 130 by decide)] at lq lw
  unfold lx_takeAsk xm_cy1
  rw [car_e (k := x) rfl (by omega) hn ho]
  by_cases c : bt (T q 1) x = true ∧ bt (T (q + 5) x ||| 1 <<< (T q 0 &&& 31)) o = false ∧ bt (T wq 1) x = false
  · rw [if_pos c]
    have u1 : ¬ U 179 (16 * l + x) = 0 := by have := lq.1; rw [c.1] at this; simpa using this.symm
    have u2 : U 179 (16 * to + x) = 0 := by have := lw.1; rw [c.2.2] at this; simpa using this.symm
    obtain ⟨v1, v2, v3⟩ := lq.2 u1
    rw [if_neg (by
      rintro (g | g | g)
      · exact u1 g
      · exact g u2
      · rw [hcar, ← v3, c.2.1] at g; simp at g)]
    have key := addAsk_wait hX hh hb ha hw hx (m := T (q + 3) x) (kn := T (q + 4) x) (b := T (q + 5) x ||| 1 <<< (T q 0 &&& 31))
    refine ⟨?_, ?_, ?_⟩
    · rw [up_up, up_comm (a := 182) (b := 130) (by decide), up_comm (a := 181) (b := 130) (by decide), up_comm (a := 180) (b := 130) (by decide), up_comm (a := 179) (b := 130) (by decide), ← v1, ← v2, ← v3]
      exact key
    · rw [up_s]
      exact cnt_1 hc (by rw [lsz_addAsk (by omega), if_neg (by rw [c.2.2]; decide)])
    · rw [lx_addAsk_o (by omega)]; exact hqq
  · rw [if_neg c, if_pos (by
      by_cases g1 : U 179 (16 * l + x) = 0
      · exact Or.inl g1
      · by_cases g2 : U 179 (16 * to + x) = 0
        · right; right
          cases g3 : bt (T (q + 5) x ||| 1 <<< (T q 0 &&& 31)) o with
          | true => rw [← (lq.2 g1).2.2, g3]; simp
          | false => exact absurd ⟨by rw [lq.1]; simp [g1], g3, by rw [lw.1]; simp [g2]⟩ c
        · exact Or.inr (Or.inl g2))]
    exact ⟨hX, hc, hqq⟩
set_option maxHeartbeats 1000000 in
theorem tk_claim {nh ns k : Nat} {pw : Nat → Nat} {L : List Nat} {R : xa_AR} {T0 : xa_AH} {c0 : Int32} {b0 : Nat} {T U : xa_AH} {h w l q wq to x o : Nat} {net : Int32} (hJ : TJ nh ns k pw L R q wq T0 c0 b0 T U) (hrow : ∀ T2 S2, RX nh ns k pw L T2 R S2 → T2 q = T0 q → lrow T2 S2 w q l) (hlq : lat w q) (hqw : q ≠ wq) (hh : h < nh) (hb : ¬ U 139 h = 0) (ha : ¬ U 136 h = 0) (hw : wside R h wq to) (hn : net = nI o) (ho : o < 32) (hx : x < 32) (hkd : U 147 x = nI (xc (U 147 x)) ∧ xc (U 147 x) < 32) (hcar : bt (U 140 h) (xc (U 147 x)) = true) : TJ nh ns k pw L R q wq T0 c0 b0 (lx_takeClaim T wq q x o) (xm_cyC h l to net x U) := by
  obtain ⟨hX, hc, hqq⟩ := hJ
  have hr := hrow T _ hX hqq
  have hap := lat_apart hlq (ws_lat hX hh hb hw) hqw
  have lq := (hr.2.2.2).2.2 x hx
  have lw := (ws_lr hX hh hb ha hw).2.2 x hx
  simp only [v_a (show 183 ≠ 130 by decide), v_a (show 184 ≠ 130 by decide), v_a (show 185 ≠ 130 by decide), v_a (show 186 ≠ 130 by decide), v_a (show 187 ≠ 130 by decide), v_a (show 188 ≠ 130 by decide), v_a (show 189 ≠ 130 by decide), v_a (show 190 ≠ 130 by decide)] at lq lw
  replace lq := lq.1
  replace lw := lw.1
  unfold lx_takeClaim xm_cyC
  rw [car_e hkd.1 hkd.2 hn ho]
  by_cases c : bt (T q 5) x = true ∧ bt (T (q + 8) x ||| 1 <<< (T q 0 &&& 31)) o = false
  · rw [if_pos c]
    have u1 : 0 < U 183 (32 * l + x) := by have := lq.1; rw [c.1] at this; simpa using this.symm
    obtain ⟨v1, v3⟩ := lq.2 u1
    have cc : (bt (U 140 h) (xc (U 147 x)) && !bt (U 184 (32 * l + x)) o) = true := by rw [hcar, ← v3, c.2]; rfl
    rw [if_pos ⟨Int32.not_le.mpr u1, cc⟩]
    have key := addClaim_wait hX hh hb ha hw hx (n := T (q + 7) x) (b := T (q + 8) x ||| 1 <<< (T q 0 &&& 31)) (by rw [v1]; exact u1)
    refine ⟨?_, ?_, ?_⟩
    · rw [up_comm (a := 184) (b := 130) (by decide), up_comm (a := 183) (b := 130) (by decide), up_up, ← v1, ← v3]
      exact key
    · rw [up_o (by decide), up_o (by decide), up_s]
      by_cases p1 : U 183 (32 * to + x) ≤ 0
      · rw [if_pos p1]
        exact cnt_1 hc (by rw [lsz_addClaim hx, if_neg (by rw [show bt (T wq 5) x = false from by rw [lw.1]; exact decide_eq_false (Int32.not_lt.mpr p1)]; decide)])
      · rw [if_neg p1]
        exact cnt_0 hc (by rw [lsz_addClaim hx, if_pos (by rw [lw.1]; exact decide_eq_true (Int32.not_le.mp p1))]; rfl)
    · rw [lx_addClaim_o (by omega)]; exact hqq
  · rw [if_neg c, if_neg (fun g => c ⟨by rw [lq.1]; exact decide_eq_true (Int32.not_le.mp g.1), by have := g.2; rw [hcar, ← (lq.2 (Int32.not_le.mp g.1)).2] at this; simpa using this⟩)]
    exact ⟨hX, hc, hqq⟩
set_option maxHeartbeats 1000000 in
theorem tk_bye {nh ns k : Nat} {pw : Nat → Nat} {L : List Nat} {R : xa_AR} {T0 : xa_AH} {c0 : Int32} {b0 : Nat} {T U : xa_AH} {h w l q wq to x o : Nat} {net : Int32} (hJ : TJ nh ns k pw L R q wq T0 c0 b0 T U) (hrow : ∀ T2 S2, RX nh ns k pw L T2 R S2 → T2 q = T0 q → lrow T2 S2 w q l) (hlq : lat w q) (hqw : q ≠ wq) (hh : h < nh) (hb : ¬ U 139 h = 0) (ha : ¬ U 136 h = 0) (hw : wside R h wq to) (hn : net = nI o) (ho : o < 32) (hx : x < 32) (hkd : U 147 x = nI (xc (U 147 x)) ∧ xc (U 147 x) < 32) (hcar : bt (U 140 h) (xc (U 147 x)) = true) : TJ nh ns k pw L R q wq T0 c0 b0 (lx_takeBye T wq q x o) (xm_cyB h l to net x U) := by
  obtain ⟨hX, hc, hqq⟩ := hJ
  have hr := hrow T _ hX hqq
  have hap := lat_apart hlq (ws_lat hX hh hb hw) hqw
  have lq := (hr.2.2.2).2.2 x hx
  have lw := (ws_lr hX hh hb ha hw).2.2 x hx
  simp only [v_a (show 183 ≠ 130 by decide), v_a (show 184 ≠ 130 by decide), v_a (show 185 ≠ 130 by decide), v_a (show 186 ≠ 130 by decide), v_a (show 187 ≠ 130 by decide), v_a (show 188 ≠ 130 by decide), v_a (show 189 ≠ 130 by decide), v_a (show 190 ≠ 130 by decide)] at lq lw
  replace lq := lq.2.1
  replace lw := lw.2.1
  unfold lx_takeBye xm_cyB
  rw [car_e hkd.1 hkd.2 hn ho]
  by_cases c : bt (T q 8) x = true ∧ bt (T (q + 10) x ||| 1 <<< (T q 0 &&& 31)) o = false
  · rw [if_pos c]
    have u1 : ¬ U 185 (32 * l + x) = 0 := by have := lq.1; rw [c.1] at this; simpa using this.symm
    obtain v3 := lq.2 u1
    have cc : (bt (U 140 h) (xc (U 147 x)) && !bt (U 186 (32 * l + x)) o) = true := by rw [hcar, ← v3, c.2]; rfl
    rw [if_pos ⟨u1, cc⟩]
    have key := addBye_wait hX hh hb ha hw hx (b := T (q + 10) x ||| 1 <<< (T q 0 &&& 31))
    refine ⟨?_, ?_, ?_⟩
    · rw [up_comm (a := 186) (b := 130) (by decide), up_comm (a := 185) (b := 130) (by decide), up_up, ← v3]
      exact key
    · rw [up_o (by decide), up_o (by decide), up_s]
      by_cases p1 : U 185 (32 * to + x) = 0
      · rw [if_pos p1]
        exact cnt_1 hc (by rw [lsz_addBye hx, if_neg (by rw [show bt (T wq 8) x = false from by rw [lw.1]; exact decide_eq_false (fun w => w p1)]; decide)])
      · rw [if_neg p1]
        exact cnt_0 hc (by rw [lsz_addBye hx, if_pos (by rw [lw.1]; exact decide_eq_true p1)]; rfl)
    · rw [lx_addBye_o (by omega)]; exact hqq
  · rw [if_neg c, if_neg (fun g => c ⟨by rw [lq.1]; exact decide_eq_true g.1, by have := g.2; rw [hcar, ← (lq.2 g.1)] at this; simpa using this⟩)]
    exact ⟨hX, hc, hqq⟩
set_option maxHeartbeats 1000000 in
theorem tk_tell {nh ns k : Nat} {pw : Nat → Nat} {L : List Nat} {R : xa_AR} {T0 : xa_AH} {c0 : Int32} {b0 : Nat} {T U : xa_AH} {h w l q wq to x o : Nat} {net : Int32} (hJ : TJ nh ns k pw L R q wq T0 c0 b0 T U) (hrow : ∀ T2 S2, RX nh ns k pw L T2 R S2 → T2 q = T0 q → lrow T2 S2 w q l) (hlq : lat w q) (hqw : q ≠ wq) (hh : h < nh) (hb : ¬ U 139 h = 0) (ha : ¬ U 136 h = 0) (hw : wside R h wq to) (hn : net = nI o) (ho : o < 32) (hx : x < 32) (hkd : U 147 x = nI (xc (U 147 x)) ∧ xc (U 147 x) < 32) (hcar : bt (U 140 h) (xc (U 147 x)) = true) : TJ nh ns k pw L R q wq T0 c0 b0 (lx_takeTelling T wq q x o) (xm_cyT h l to net x U) := by
  obtain ⟨hX, hc, hqq⟩ := hJ
  have hr := hrow T _ hX hqq
  have hap := lat_apart hlq (ws_lat hX hh hb hw) hqw
  have lq := (hr.2.2.2).2.2 x hx
  have lw := (ws_lr hX hh hb ha hw).2.2 x hx
  simp only [v_a (show 183 ≠ 130 by decide), v_a (show 184 ≠ 130 by decide), v_a (show 185 ≠ 130 by decide), v_a (show 186 ≠ 130 by decide), v_a (show 187 ≠ 130 by decide), v_a (show 188 ≠ 130 by decide), v_a (show 189 ≠ 130 by decide), v_a (show 190 ≠ 130 by decide)] at lq lw
  replace lq := lq.2.2
  replace lw := lw.2.2
  unfold lx_takeTelling xm_cyT
  rw [car_e hkd.1 hkd.2 hn ho]
  by_cases c : bt (T q 10) x = true ∧ bt (T (q + 15) x ||| 1 <<< (T q 0 &&& 31)) o = false ∧ ¬ T (q + 14) x - 1 ≤ 0
  · rw [if_pos c]
    have u1 : 0 < U 187 (32 * l + x) := by have := lq.1; rw [c.1] at this; simpa using this.symm
    have z := lq.2 u1
    have t0 := tl_e (d := T (q + 14) x) (z.2.2.1 ▸ z.2.2.2.2)
    have u2 : ¬ U 189 (32 * l + x) ≤ 1 := by rw [← z.2.2.1, ← t0.1]; exact c.2.2
    have t1 : vp_in (T (q + 14) x - 1) 201 := (t0.2 (by rw [z.2.2.1]; exact u2)).1
    obtain ⟨v1, v2, v4, v3, v5⟩ := lq.2 u1
    have cc : (bt (U 140 h) (xc (U 147 x)) && !bt (U 190 (32 * l + x)) o) = true := by rw [hcar, ← v3, c.2.1]; rfl
    rw [if_pos ⟨Int32.not_le.mpr u1, u2, cc⟩]
    have key := addTelling_wait hX hh hb ha hw hx (n := T (q + 12) x) (m := T (q + 13) x) (l := T (q + 14) x - 1) (b := T (q + 15) x ||| 1 <<< (T q 0 &&& 31)) (by rw [v1]; exact u1) t1
    refine ⟨?_, ?_, ?_⟩
    · rw [up_comm (a := 190) (b := 130) (by decide), up_comm (a := 189) (b := 130) (by decide), up_comm (a := 188) (b := 130) (by decide), up_comm (a := 187) (b := 130) (by decide), up_up, ← v1, ← v2, ← v3, ← v4]
      exact key
    · rw [up_o (by decide), up_o (by decide), up_o (by decide), up_o (by decide), up_s]
      by_cases p1 : U 187 (32 * to + x) ≤ 0
      · rw [if_pos p1]
        exact cnt_1 hc (by rw [lsz_addTelling hx, if_neg (by rw [show bt (T wq 10) x = false from by rw [lw.1]; exact decide_eq_false (Int32.not_lt.mpr p1)]; decide)])
      · rw [if_neg p1]
        exact cnt_0 hc (by rw [lsz_addTelling hx, if_pos (by rw [lw.1]; exact decide_eq_true (Int32.not_le.mp p1))]; rfl)
    · rw [lx_addTelling_o (by omega)]; exact hqq
  · rw [if_neg c, if_neg (fun g => c ⟨by rw [lq.1]; exact decide_eq_true (Int32.not_le.mp g.1), by have := g.2.2; rw [hcar, ← (lq.2 (Int32.not_le.mp g.1)).2.2.2.1] at this; simpa using this, by have z := lq.2 (Int32.not_le.mp g.1); rw [(tl_e (z.2.2.1 ▸ z.2.2.2.2)).1, z.2.2.1]; exact g.2.1⟩)]
    exact ⟨hX, hc, hqq⟩
