set_option maxHeartbeats 4000000 in
theorem cx_lsize (E : xa_EV) {L : List Nat} {T : xa_AH} {R : xa_AR} {q : Nat} (hq : cs_l L R q) : xa_Ct E mX4_size [.ref q] L T R (xa_pR (.int (nI (lsz T q))) T R) := by
  refine xa_Ct.of [some (.ref q)] rfl (Nat.le_of_ble_eq_true rfl) (by simp [Value.category]) rfl ?_
  refine xa_aload_n (pc := 0) dX4_size_0 rfl ?_
  refine xa_getI (pc := 1) 4 1 lfX4_42 dX4_size_1 (hq).1 (hq).2.1 rfl ?_
  refine xa_callS (pc := 4) lcX4_55 dX4_size_4 (cx_bitCount E _) rfl rfl (by decide) (Nat.le_of_ble_eq_true rfl) (by decide) ?_
  rintro _ _ _ ⟨rfl, rfl, rfl⟩
  refine xa_aload_n (pc := 7) dX4_size_7 rfl ?_
  refine xa_getI (pc := 8) 4 5 lfX4_46 dX4_size_8 (hq).1 (hq).2.1 rfl ?_
  refine xa_callS (pc := 11) lcX4_55 dX4_size_11 (cx_bitCount E _) rfl rfl (by decide) (Nat.le_of_ble_eq_true rfl) (by decide) ?_
  rintro _ _ _ ⟨rfl, rfl, rfl⟩
  refine xa_iadd (pc := 14) dX4_size_14 ?_
  refine xa_aload_n (pc := 15) dX4_size_15 rfl ?_
  refine xa_getI (pc := 16) 4 8 lfX4_49 dX4_size_16 (hq).1 (hq).2.1 rfl ?_
  refine xa_callS (pc := 19) lcX4_55 dX4_size_19 (cx_bitCount E _) rfl rfl (by decide) (Nat.le_of_ble_eq_true rfl) (by decide) ?_
  rintro _ _ _ ⟨rfl, rfl, rfl⟩
  refine xa_iadd (pc := 22) dX4_size_22 ?_
  refine xa_aload_n (pc := 23) dX4_size_23 rfl ?_
  refine xa_getI (pc := 24) 4 10 lfX4_52 dX4_size_24 (hq).1 (hq).2.1 rfl ?_
  refine xa_callS (pc := 27) lcX4_55 dX4_size_27 (cx_bitCount E _) rfl rfl (by decide) (Nat.le_of_ble_eq_true rfl) (by decide) ?_
  rintro _ _ _ ⟨rfl, rfl, rfl⟩
  refine xa_iadd (pc := 30) dX4_size_30 ?_
  exact xa_zret dX4_size_31 rfl rfl ⟨congrArg (fun z => some (Value.int z)) (Eq.symm (xa_pa (xa_pa (xa_pa rfl rfl) rfl) rfl)), rfl, rfl⟩
theorem car_e {S : xa_AH} {h k o : Nat} {kd bore net : Int32} (hk : kd = nI k) (hk2 : k < 32) (hn : net = nI o) (ho : o < 32) : xm_car S h kd bore net = (bt (S 140 h) k && !bt bore o) := by
  subst hk; subst hn
  unfold xm_car
  congr 1
  · by_cases g : bt (S 140 h) k = true
    · rw [g]; exact decide_eq_true ((bt_sin hk2).mpr g)
    · rw [decide_eq_false (fun w => g ((bt_sin hk2).mp w))]; simpa using g
  · cases g : bt bore o with
    | false => exact decide_eq_true ((bt_sin0 ho).mpr g)
    | true => exact decide_eq_false (fun w => by rw [(bt_sin0 ho).mp w] at g; cases g)
/-- what waits on bridge h, on one of its sides -/
def wside (R : xa_AR) (h wq to : Nat) : Prop := (wq = w2 R h ∧ to = 24 + 2 * h + 1) ∨ (wq = wh R h ∧ to = 24 + 2 * h)
theorem ws_lat {nh ns k : Nat} {pw : Nat → Nat} {L : List Nat} {T : xa_AH} {R : xa_AR} {S : xa_AH} (hX : RX nh ns k pw L T R S) {h wq to : Nat} (hh : h < nh) (hb : ¬ S 139 h = 0) (hw : wside R h wq to) : lat h wq := by
  have := lat_b hX hh hb
  rcases hw with e | e
  · rw [e.1]; exact this.2.2
  · rw [e.1]; exact this.2.1
theorem ws_lr {nh ns k : Nat} {pw : Nat → Nat} {L : List Nat} {T : xa_AH} {R : xa_AR} {S : xa_AH} (hX : RX nh ns k pw L T R S) {h wq to : Nat} (hh : h < nh) (hb : ¬ S 139 h = 0) (ha : ¬ S 136 h = 0) (hw : wside R h wq to) : lr T wq S to 0 := by
  have := hX.w_w hh hb ha
  rcases hw with e | e
  · rw [e.1, e.2]; exact this.2
  · rw [e.1, e.2]; exact this.1
theorem RX_wait {nh ns k : Nat} {pw : Nat → Nat} {L : List Nat} {T : xa_AH} {R : xa_AR} {S : xa_AH} (hX : RX nh ns k pw L T R S) {T2 S2 : xa_AH} {h wq to : Nat} (hh : h < nh) (hb : ¬ S 139 h = 0) (ha : ¬ S 136 h = 0) (hw : wside R h wq to) (hT : ∀ a, (a < wq ∨ wq + 15 < a) → T2 a = T a) (hS : ∀ a, a < 179 → S2 a = S a) (hR : ∀ r, r < 48 → r ≠ to → rowsame S S2 r) (hlr : lr T2 wq S2 to 0) : RX nh ns k pw L T2 R S2 := by
  have n12 := hX.n12
  have kle := hX.k_le
  have lw := ws_lat hX hh hb hw
  have f4 := four hX hh hb
  refine RX_one hX hh lw hT hS hR ?_ ?_ ?_
  · intro x hx g1 g2
    have lx := lat_b hX hx g1
    refine ⟨fun c => ?_, fun c => ?_⟩
    · by_cases e : x = h
      · subst e
        rcases hw with ⟨e1, e2⟩ | ⟨e1, e2⟩
        · exfalso; rcases c with c | c
          · exact f4.2.2.2.2.2 (c.trans e1)
          · omega
        · rw [← e1, ← e2]; exact hlr
      · exfalso; rcases c with c | c
        · exact lat_host lx.2.1 lw e c
        · rcases hw with ⟨_, e2⟩ | ⟨_, e2⟩ <;> omega
    · by_cases e : x = h
      · subst e
        rcases hw with ⟨e1, e2⟩ | ⟨e1, e2⟩
        · rw [← e1, ← e2]; exact hlr
        · exfalso; rcases c with c | c
          · exact f4.2.2.2.2.2 (e1.symm.trans c.symm)
          · omega
      · exfalso; rcases c with c | c
        · exact lat_host lx.2.2 lw e c
        · rcases hw with ⟨_, e2⟩ | ⟨_, e2⟩ <;> omega
  · intro x hx g
    have e : x ≠ h := fun e => hb (by rw [← e]; exact g (by rw [e]; exact hh))
    rcases hw with ⟨_, e2⟩ | ⟨_, e2⟩ <;> omega
  · intro i hi
    have b := hX.pwb i (by omega)
    have t24 : 24 ≤ to := by rcases hw with ⟨_, e2⟩ | ⟨_, e2⟩ <;> omega
    refine ⟨?_, fun g => ?_, fun _ => by omega, fun _ _ => by split <;> omega⟩
    · by_cases e : i = h
      · subst e; rcases hw with ⟨e1, _⟩ | ⟨e1, _⟩
        · rw [e1]; exact f4.2.2.1
        · rw [e1]; exact f4.2.1
      · exact lat_host (lat_lt hX (by omega)) lw e
    · by_cases e : i = h
      · subst e; rcases hw with ⟨e1, _⟩ | ⟨e1, _⟩
        · rw [e1]; exact f4.2.2.2.2.1
        · rw [e1]; exact f4.2.2.2.1
      · exact lat_host (lat_b hX (by omega) g).1 lw e
def TJ (nh ns k : Nat) (pw : Nat → Nat) (L : List Nat) (R : xa_AR) (q wq : Nat) (T0 : xa_AH) (c0 : Int32) (b0 : Nat) (T U : xa_AH) : Prop := RX nh ns k pw L T R (xa_up U 130 44 c0) ∧ U 130 44 = c0 + (nI (lsz T wq) - nI b0) ∧ T q = T0 q
theorem v_a {U : xa_AH} {c0 : Int32} {a : Nat} (h : a ≠ 130) : xa_up U 130 44 c0 a = U a := up_o h
theorem lsz_le (T : xa_AH) (q : Nat) : lsz T q ≤ 128 := by
  have h1 := xa_ct_le (bt (T q 1)) 32; have h2 := xa_ct_le (bt (T q 5)) 32; have h3 := xa_ct_le (bt (T q 8)) 32; have h4 := xa_ct_le (bt (T q 10)) 32
  unfold lsz; omega
theorem cnt_1 {c0 u : Int32} {b0 n m : Nat} (h : u = c0 + (nI n - nI b0)) (hm : m = n + 1) : u + 1 = c0 + (nI m - nI b0) := by
  subst hm
  rw [h, ← nI_1]
  apply Int32.toBitVec_inj.mp
  simp only [Int32.toBitVec_add, Int32.toBitVec_sub]
  generalize c0.toBitVec = a; generalize (nI n).toBitVec = b; generalize (nI b0).toBitVec = c; generalize (1 : Int32).toBitVec = d
  rw [BitVec.sub_eq_add_neg, BitVec.sub_eq_add_neg, BitVec.add_assoc, BitVec.add_assoc, BitVec.add_assoc b, BitVec.add_comm d]
theorem lx_addAsk_o {T : xa_AH} {q x a : Nat} {m kn b : Int32} (ha : a < q ∨ q + 15 < a) : lx_addAsk T q x m kn b a = T a := by
  unfold lx_addAsk; rw [up_o (by omega), up_o (by omega), up_o (by omega), up_o (by omega)]
theorem lsz_addAsk {T : xa_AH} {q x : Nat} {m kn b : Int32} (hx : x < 32) : lsz (lx_addAsk T q x m kn b) q = lsz T q + (if bt (T q 1) x = true then 0 else 1) := by
  have e : ∀ f, f ≠ 1 → lx_addAsk T q x m kn b q f = T q f := fun f hf => by unfold lx_addAsk; simp [xa_up, hf]
  have e1 : lx_addAsk T q x m kn b q 1 = bset (T q 1) x := by unfold lx_addAsk; simp [xa_up]
  unfold lsz
  rw [e 5 (by decide), e 8 (by decide), e 10 (by decide), e1, ct_bset hx]; omega
theorem addAsk_wait {nh ns k : Nat} {pw : Nat → Nat} {L : List Nat} {T : xa_AH} {R : xa_AR} {S : xa_AH} (hX : RX nh ns k pw L T R S) {h wq to x : Nat} {m kn b : Int32} (hh : h < nh) (hb : ¬ S 139 h = 0) (ha : ¬ S 136 h = 0) (hw : wside R h wq to) (hx : x < 16) : RX nh ns k pw L (lx_addAsk T wq x m kn b) R (xa_up (xa_up (xa_up (xa_up S 179 (16 * to + x) 1) 180 (16 * to + x) m) 181 (16 * to + x) kn) 182 (16 * to + x) b) := by
  refine RX_wait hX hh hb ha hw (fun a g => lx_addAsk_o g) (fun a g => by rw [up_o (by omega), up_o (by omega), up_o (by omega), up_o (by omega)]) (fun r hr n => rowsame_up (rowsame_up (rowsame_up (rowsame_up (rowsame_rf) (by omega)) (by omega)) (by omega)) (by omega)) ?_
  have q := lr_addAsk (b := b) (m := m) (kn := kn) hx (ws_lr hX hh hb ha hw)
  rw [or0] at q
  exact q
theorem lx_addClaim_o {T : xa_AH} {q x a : Nat} {n b : Int32} (ha : a < q ∨ q + 15 < a) : lx_addClaim T q x n b a = T a := by
  unfold lx_addClaim; rw [up_o (by omega), up_o (by omega), up_o (by omega)]
theorem lsz_addClaim {T : xa_AH} {q x : Nat} {n b : Int32} (hx : x < 32) : lsz (lx_addClaim T q x n b) q = lsz T q + (if bt (T q 5) x = true then 0 else 1) := by
  have e : ∀ f, f ≠ 5 → lx_addClaim T q x n b q f = T q f := fun f hf => by unfold lx_addClaim; simp [xa_up, hf]
  have e1 : lx_addClaim T q x n b q 5 = bset (T q 5) x := by unfold lx_addClaim; simp [xa_up]
  unfold lsz
  rw [e 1 (by decide), e 8 (by decide), e 10 (by decide), e1, ct_bset hx]; omega
theorem addClaim_wait {nh ns k : Nat} {pw : Nat → Nat} {L : List Nat} {T : xa_AH} {R : xa_AR} {S : xa_AH} (hX : RX nh ns k pw L T R S) {h wq to x : Nat} {n b : Int32} (hh : h < nh) (hb : ¬ S 139 h = 0) (ha : ¬ S 136 h = 0) (hw : wside R h wq to) (hx : x < 32) (hn : 0 < n) : RX nh ns k pw L (lx_addClaim T wq x n b) R (xa_up (xa_up S 183 (32 * to + x) n) 184 (32 * to + x) b) := by
  refine RX_wait hX hh hb ha hw (fun a g => lx_addClaim_o g) (fun a g => by rw [up_o (by omega), up_o (by omega)]) (fun r hr n => rowsame_up (rowsame_up (rowsame_rf) (by omega)) (by omega)) ?_
  have q := lr_addClaim (b := b) hx hn (ws_lr hX hh hb ha hw)
  rw [or0] at q
  exact q
theorem lx_addBye_o {T : xa_AH} {q x a : Nat} {b : Int32} (ha : a < q ∨ q + 15 < a) : lx_addBye T q x b a = T a := by
  unfold lx_addBye; rw [up_o (by omega), up_o (by omega)]
theorem lsz_addBye {T : xa_AH} {q x : Nat} {b : Int32} (hx : x < 32) : lsz (lx_addBye T q x b) q = lsz T q + (if bt (T q 8) x = true then 0 else 1) := by
  have e : ∀ f, f ≠ 8 → lx_addBye T q x b q f = T q f := fun f hf => by unfold lx_addBye; simp [xa_up, hf]
  have e1 : lx_addBye T q x b q 8 = bset (T q 8) x := by unfold lx_addBye; simp [xa_up]
  unfold lsz
  rw [e 1 (by decide), e 5 (by decide), e 10 (by decide), e1, ct_bset hx]; omega
theorem addBye_wait {nh ns k : Nat} {pw : Nat → Nat} {L : List Nat} {T : xa_AH} {R : xa_AR} {S : xa_AH} (hX : RX nh ns k pw L T R S) {h wq to x : Nat} {b : Int32} (hh : h < nh) (hb : ¬ S 139 h = 0) (ha : ¬ S 136 h = 0) (hw : wside R h wq to) (hx : x < 32) : RX nh ns k pw L (lx_addBye T wq x b) R (xa_up (xa_up S 185 (32 * to + x) 1) 186 (32 * to + x) b) := by
  refine RX_wait hX hh hb ha hw (fun a g => lx_addBye_o g) (fun a g => by rw [up_o (by omega), up_o (by omega)]) (fun r hr n => rowsame_up (rowsame_up (rowsame_rf) (by omega)) (by omega)) ?_
  have q := lr_addBye (b := b) hx (ws_lr hX hh hb ha hw)
  rw [or0] at q
  exact q
theorem lx_addTelling_o {T : xa_AH} {q x a : Nat} {n m l b : Int32} (ha : a < q ∨ q + 15 < a) : lx_addTelling T q x n m l b a = T a := by
  unfold lx_addTelling; rw [up_o (by omega), up_o (by omega), up_o (by omega), up_o (by omega), up_o (by omega)]
theorem lsz_addTelling {T : xa_AH} {q x : Nat} {n m l b : Int32} (hx : x < 32) : lsz (lx_addTelling T q x n m l b) q = lsz T q + (if bt (T q 10) x = true then 0 else 1) := by
  have e : ∀ f, f ≠ 10 → lx_addTelling T q x n m l b q f = T q f := fun f hf => by unfold lx_addTelling; simp [xa_up, hf]
  have e1 : lx_addTelling T q x n m l b q 10 = bset (T q 10) x := by unfold lx_addTelling; simp [xa_up]
  unfold lsz
  rw [e 1 (by decide), e 5 (by decide), e 8 (by decide), e1, ct_bset hx]; omega
theorem addTelling_wait {nh ns k : Nat} {pw : Nat → Nat} {L : List Nat} {T : xa_AH} {R : xa_AR} {S : xa_AH} (hX : RX nh ns k pw L T R S) {h wq to x : Nat} {n m l b : Int32} (hh : h < nh) (hb : ¬ S 139 h = 0) (ha : ¬ S 136 h = 0) (hw : wside R h wq to) (hx : x < 32) (hn : 0 < n) (hl : vp_in l 201) : RX nh ns k pw L (lx_addTelling T wq x n m l b) R (xa_up (xa_up (xa_up (xa_up S 187 (32 * to + x) n) 188 (32 * to + x) m) 189 (32 * to + x) l) 190 (32 * to + x) b) := by
  refine RX_wait hX hh hb ha hw (fun a g => lx_addTelling_o g) (fun a g => by rw [up_o (by omega), up_o (by omega), up_o (by omega), up_o (by omega)]) (fun r hr n => rowsame_up (rowsame_up (rowsame_up (rowsame_up (rowsame_rf) (by omega)) (by omega)) (by omega)) (by omega)) ?_
  have q := lr_addTelling (b := b) (m := m) hx hn hl (ws_lr hX hh hb ha hw)
  rw [or0] at q
  exact q
