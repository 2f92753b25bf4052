/-! ===== the class: its cells by number; words and rows ===== -/
def ci (h r : Nat) : Nat := 256 * h + r
theorem ci_inj {h r i q : Nat} (hr : r < 256) (hq : q < 256) : ci h r = ci i q ↔ h = i ∧ r = q := by unfold ci; omega
theorem ci_i {h i r : Nat} : ci h r = ci i r ↔ h = i := by unfold ci; omega
theorem ci_kd (h r : Nat) (hr : r < 256) : xa_kd (ci h r) = xa_kT.getD r 99 := by
  unfold xa_kd ci; rw [Nat.mul_add_mod, Nat.mod_eq_of_lt hr]
theorem ci_ln (h r : Nat) (hr : r < 256) : xa_ln (ci h r) = xa_lT.getD r 0 := by
  unfold xa_ln ci; rw [Nat.mul_add_mod, Nat.mod_eq_of_lt hr]
theorem kd_0 (h : Nat) : xa_kd (ci h 0) = 3 := ci_kd h 0 (by decide)
theorem kd_1 (h : Nat) : xa_kd (ci h 1) = 6 := ci_kd h 1 (by decide)
theorem kd_2 (h : Nat) : xa_kd (ci h 2) = 9 := ci_kd h 2 (by decide)
theorem kd_3 (h : Nat) : xa_kd (ci h 3) = 9 := ci_kd h 3 (by decide)
theorem kd_4 (h : Nat) : xa_kd (ci h 4) = 9 := ci_kd h 4 (by decide)
theorem kd_5 (h : Nat) : xa_kd (ci h 5) = 9 := ci_kd h 5 (by decide)
theorem kd_6 (h : Nat) : xa_kd (ci h 6) = 1 := ci_kd h 6 (by decide)
theorem kd_7 (h : Nat) : xa_kd (ci h 7) = 9 := ci_kd h 7 (by decide)
theorem kd_8 (h : Nat) : xa_kd (ci h 8) = 9 := ci_kd h 8 (by decide)
theorem kd_9 (h : Nat) : xa_kd (ci h 9) = 0 := ci_kd h 9 (by decide)
theorem kd_10 (h : Nat) : xa_kd (ci h 10) = 9 := ci_kd h 10 (by decide)
theorem kd_16 (h : Nat) : xa_kd (ci h 16) = 4 := ci_kd h 16 (by decide)
theorem kd_32 (h : Nat) : xa_kd (ci h 32) = 4 := ci_kd h 32 (by decide)
theorem kd_48 (h : Nat) : xa_kd (ci h 48) = 4 := ci_kd h 48 (by decide)
theorem kd_64 (h : Nat) : xa_kd (ci h 64) = 4 := ci_kd h 64 (by decide)
theorem kd_80 (h : Nat) : xa_kd (ci h 80) = 2 := ci_kd h 80 (by decide)
theorem kd_126 (h : Nat) : xa_kd (ci h 126) = 11 := ci_kd h 126 (by decide)
theorem kd_127 (h : Nat) : xa_kd (ci h 127) = 12 := ci_kd h 127 (by decide)
theorem kd_128 (h : Nat) : xa_kd (ci h 128) = 5 := ci_kd h 128 (by decide)
theorem kd_129 (h : Nat) : xa_kd (ci h 129) = 7 := ci_kd h 129 (by decide)
theorem ln_2 (h : Nat) : xa_ln (ci h 2) = 32 := ci_ln h 2 (by decide)
theorem ln_3 (h : Nat) : xa_ln (ci h 3) = 32 := ci_ln h 3 (by decide)
theorem ln_4 (h : Nat) : xa_ln (ci h 4) = 32 := ci_ln h 4 (by decide)
theorem ln_5 (h : Nat) : xa_ln (ci h 5) = 32 := ci_ln h 5 (by decide)
theorem ln_7 (h : Nat) : xa_ln (ci h 7) = 16 := ci_ln h 7 (by decide)
theorem ln_8 (h : Nat) : xa_ln (ci h 8) = 16 := ci_ln h 8 (by decide)
theorem ln_10 (h : Nat) : xa_ln (ci h 10) = 32 := ci_ln h 10 (by decide)
theorem ln_126 (h : Nat) : xa_ln (ci h 126) = 12 := ci_ln h 126 (by decide)
theorem ln_127 (h : Nat) : xa_ln (ci h 127) = 32 := ci_ln h 127 (by decide)
def cs_tab : List (Nat × Nat × Nat) := [(0, 4, 1), (0, 5, 6), (0, 6, 9), (1, 0, 2), (1, 1, 3), (1, 2, 4), (1, 3, 5), (6, 0, 7), (6, 1, 8), (9, 0, 10)]
/-- host h: its cells are there, and joined as they must be -/
def cs_h (L : List Nat) (R : xa_AR) (h : Nat) : Prop := (∀ r, r < 11 → ci h r ∈ L) ∧ ∀ q ∈ cs_tab, R (ci h q.1) q.2.1 = some (ci h q.2.2)
def cl_tab : List (Nat × Nat) := [(2, 16), (3, 16), (4, 16), (6, 32), (7, 32), (9, 32), (11, 32), (12, 32), (13, 32), (14, 32)]
/-- a letter q -/
def cs_l (L : List Nat) (R : xa_AR) (q : Nat) : Prop := q ∈ L ∧ xa_kd q = 4 ∧ ∀ f ∈ cl_tab, R q f.1 = some (q + (f.1 + 1)) ∧ q + (f.1 + 1) ∈ L ∧ xa_kd (q + (f.1 + 1)) = 9 ∧ xa_ln (q + (f.1 + 1)) = f.2
theorem cl_r2 {L : List Nat} {R : xa_AR} {q : Nat} (h : cs_l L R q) : R q 2 = some (q + 3) := (h.2.2 (2, 16) (by decide)).1
theorem cl_m2 {L : List Nat} {R : xa_AR} {q : Nat} (h : cs_l L R q) : q + 3 ∈ L := (h.2.2 (2, 16) (by decide)).2.1
theorem cl_k2 {L : List Nat} {R : xa_AR} {q : Nat} (h : cs_l L R q) : xa_kd (q + 3) = 9 := (h.2.2 (2, 16) (by decide)).2.2.1
theorem cl_n2 {L : List Nat} {R : xa_AR} {q : Nat} (h : cs_l L R q) : xa_ln (q + 3) = 16 := (h.2.2 (2, 16) (by decide)).2.2.2
theorem cl_r3 {L : List Nat} {R : xa_AR} {q : Nat} (h : cs_l L R q) : R q 3 = some (q + 4) := (h.2.2 (3, 16) (by decide)).1
theorem cl_m3 {L : List Nat} {R : xa_AR} {q : Nat} (h : cs_l L R q) : q + 4 ∈ L := (h.2.2 (3, 16) (by decide)).2.1
theorem cl_k3 {L : List Nat} {R : xa_AR} {q : Nat} (h : cs_l L R q) : xa_kd (q + 4) = 9 := (h.2.2 (3, 16) (by decide)).2.2.1
theorem cl_n3 {L : List Nat} {R : xa_AR} {q : Nat} (h : cs_l L R q) : xa_ln (q + 4) = 16 := (h.2.2 (3, 16) (by decide)).2.2.2
theorem cl_r4 {L : List Nat} {R : xa_AR} {q : Nat} (h : cs_l L R q) : R q 4 = some (q + 5) := (h.2.2 (4, 16) (by decide)).1
theorem cl_m4 {L : List Nat} {R : xa_AR} {q : Nat} (h : cs_l L R q) : q + 5 ∈ L := (h.2.2 (4, 16) (by decide)).2.1
theorem cl_k4 {L : List Nat} {R : xa_AR} {q : Nat} (h : cs_l L R q) : xa_kd (q + 5) = 9 := (h.2.2 (4, 16) (by decide)).2.2.1
theorem cl_n4 {L : List Nat} {R : xa_AR} {q : Nat} (h : cs_l L R q) : xa_ln (q + 5) = 16 := (h.2.2 (4, 16) (by decide)).2.2.2
theorem cl_r6 {L : List Nat} {R : xa_AR} {q : Nat} (h : cs_l L R q) : R q 6 = some (q + 7) := (h.2.2 (6, 32) (by decide)).1
theorem cl_m6 {L : List Nat} {R : xa_AR} {q : Nat} (h : cs_l L R q) : q + 7 ∈ L := (h.2.2 (6, 32) (by decide)).2.1
theorem cl_k6 {L : List Nat} {R : xa_AR} {q : Nat} (h : cs_l L R q) : xa_kd (q + 7) = 9 := (h.2.2 (6, 32) (by decide)).2.2.1
theorem cl_n6 {L : List Nat} {R : xa_AR} {q : Nat} (h : cs_l L R q) : xa_ln (q + 7) = 32 := (h.2.2 (6, 32) (by decide)).2.2.2
theorem cl_r7 {L : List Nat} {R : xa_AR} {q : Nat} (h : cs_l L R q) : R q 7 = some (q + 8) := (h.2.2 (7, 32) (by decide)).1
theorem cl_m7 {L : List Nat} {R : xa_AR} {q : Nat} (h : cs_l L R q) : q + 8 ∈ L := (h.2.2 (7, 32) (by decide)).2.1
theorem cl_k7 {L : List Nat} {R : xa_AR} {q : Nat} (h : cs_l L R q) : xa_kd (q + 8) = 9 := (h.2.2 (7, 32) (by decide)).2.2.1
theorem cl_n7 {L : List Nat} {R : xa_AR} {q : Nat} (h : cs_l L R q) : xa_ln (q + 8) = 32 := (h.2.2 (7, 32) (by decide)).2.2.2
theorem cl_r9 {L : List Nat} {R : xa_AR} {q : Nat} (h : cs_l L R q) : R q 9 = some (q + 10) := (h.2.2 (9, 32) (by decide)).1
theorem cl_m9 {L : List Nat} {R : xa_AR} {q : Nat} (h : cs_l L R q) : q + 10 ∈ L := (h.2.2 (9, 32) (by decide)).2.1
theorem cl_k9 {L : List Nat} {R : xa_AR} {q : Nat} (h : cs_l L R q) : xa_kd (q + 10) = 9 := (h.2.2 (9, 32) (by decide)).2.2.1
theorem cl_n9 {L : List Nat} {R : xa_AR} {q : Nat} (h : cs_l L R q) : xa_ln (q + 10) = 32 := (h.2.2 (9, 32) (by decide)).2.2.2
theorem cl_r11 {L : List Nat} {R : xa_AR} {q : Nat} (h : cs_l L R q) : R q 11 = some (q + 12) := (h.2.2 (11, 32) (by decide)).1
theorem cl_m11 {L : List Nat} {R : xa_AR} {q : Nat} (h : cs_l L R q) : q + 12 ∈ L := (h.2.2 (11, 32) (by decide)).2.1
theorem cl_k11 {L : List Nat} {R : xa_AR} {q : Nat} (h : cs_l L R q) : xa_kd (q + 12) = 9 := (h.2.2 (11, 32) (by decide)).2.2.1
theorem cl_n11 {L : List Nat} {R : xa_AR} {q : Nat} (h : cs_l L R q) : xa_ln (q + 12) = 32 := (h.2.2 (11, 32) (by decide)).2.2.2
theorem cl_r12 {L : List Nat} {R : xa_AR} {q : Nat} (h : cs_l L R q) : R q 12 = some (q + 13) := (h.2.2 (12, 32) (by decide)).1
theorem cl_m12 {L : List Nat} {R : xa_AR} {q : Nat} (h : cs_l L R q) : q + 13 ∈ L := (h.2.2 (12, 32) (by decide)).2.1
theorem cl_k12 {L : List Nat} {R : xa_AR} {q : Nat} (h : cs_l L R q) : xa_kd (q + 13) = 9 := (h.2.2 (12, 32) (by decide)).2.2.1
theorem cl_n12 {L : List Nat} {R : xa_AR} {q : Nat} (h : cs_l L R q) : xa_ln (q + 13) = 32 := (h.2.2 (12, 32) (by decide)).2.2.2
theorem cl_r13 {L : List Nat} {R : xa_AR} {q : Nat} (h : cs_l L R q) : R q 13 = some (q + 14) := (h.2.2 (13, 32) (by decide)).1
theorem cl_m13 {L : List Nat} {R : xa_AR} {q : Nat} (h : cs_l L R q) : q + 14 ∈ L := (h.2.2 (13, 32) (by decide)).2.1
theorem cl_k13 {L : List Nat} {R : xa_AR} {q : Nat} (h : cs_l L R q) : xa_kd (q + 14) = 9 := (h.2.2 (13, 32) (by decide)).2.2.1
theorem cl_n13 {L : List Nat} {R : xa_AR} {q : Nat} (h : cs_l L R q) : xa_ln (q + 14) = 32 := (h.2.2 (13, 32) (by decide)).2.2.2
theorem cl_r14 {L : List Nat} {R : xa_AR} {q : Nat} (h : cs_l L R q) : R q 14 = some (q + 15) := (h.2.2 (14, 32) (by decide)).1
theorem cl_m14 {L : List Nat} {R : xa_AR} {q : Nat} (h : cs_l L R q) : q + 15 ∈ L := (h.2.2 (14, 32) (by decide)).2.1
theorem cl_k14 {L : List Nat} {R : xa_AR} {q : Nat} (h : cs_l L R q) : xa_kd (q + 15) = 9 := (h.2.2 (14, 32) (by decide)).2.2.1
theorem cl_n14 {L : List Nat} {R : xa_AR} {q : Nat} (h : cs_l L R q) : xa_ln (q + 15) = 32 := (h.2.2 (14, 32) (by decide)).2.2.2
section CX1
variable {E : xa_EV} {M : xa_MC} {Z : xa_ZC} {kc ks pc : Nat} {ls : List (Option Value)} {st : List Value} {L : List Nat} {hi : xa_AH} {hr : xa_AR}
theorem xa_getIv {a idx : Nat} (ci kf : Nat) (v : Int32) (hF : xa_FL M.1.cls idx ci kf) (hd : decode M.2.1 pc = .ok (.getfield idx, 3)) (ha : a ∈ L) (hk : xa_kd a = ci) (hr0 : xa_isR ci kf = false) (hv : hi a kf = v) (k : xa_W E M Z kc ks (pc + 3) ls (.int v :: st) L hi hr) : xa_W E M Z kc ks pc ls (.ref a :: st) L hi hr := by
  subst hv; exact xa_getI ci kf hF hd ha hk hr0 k
theorem xa_ialdC {a n : Nat} {i : Int32} (j : Nat) (v : Int32) (hd : decode M.2.1 pc = .ok (.iaload, 1)) (ha : a ∈ L) (hk : xa_kd a = 9) (hln : xa_ln a = n) (hij : i = nI j) (hlt : j < n) (hsm : n < 2 ^ 31) (hv : hi a j = v) (k : xa_W E M Z kc ks (pc + 1) ls (.int v :: st) L hi hr) : xa_W E M Z kc ks pc ls (.int i :: .ref a :: st) L hi hr := by
  subst hln; subst hv; exact xa_ialdN j hd ha hk hij hlt hsm k
theorem xa_iastC {a n : Nat} {i x : Int32} (j : Nat) (hd : decode M.2.1 pc = .ok (.iastore, 1)) (ha : a ∈ L) (hk : xa_kd a = 9) (hln : xa_ln a = n) (hij : i = nI j) (hlt : j < n) (hsm : n < 2 ^ 31) (k : xa_W E M Z kc ks (pc + 1) ls st L (xa_up hi a j x) hr) : xa_W E M Z kc ks pc ls (.int x :: .int i :: .ref a :: st) L hi hr := by
  subst hln; exact xa_iastN j hd ha hk hij hlt hsm k
theorem xa_aaldH {i : Int32} (j b : Nat) (hd : decode M.2.1 pc = .ok (.aaload, 1)) (ha : ci 0 126 ∈ L) (hij : i = nI j) (hlt : j < 12) (ho : hr (ci 0 126) j = some b) (k : xa_W E M Z kc ks (pc + 1) ls (.ref b :: st) L hi hr) : xa_W E M Z kc ks pc ls (.int i :: .ref (ci 0 126) :: st) L hi hr := by
  subst hij
  exact xa_aald_h (some b) hd ha (kd_126 0) (by rw [ln_126]; exact vp_in_nI hlt (by decide)) (by rw [nI_clamp (by omega)]; exact ho) k
theorem xa_aaldS {i : Int32} (j b : Nat) (hd : decode M.2.1 pc = .ok (.aaload, 1)) (ha : ci 0 127 ∈ L) (hij : i = nI j) (hlt : j < 32) (ho : hr (ci 0 127) j = some b) (k : xa_W E M Z kc ks (pc + 1) ls (.ref b :: st) L hi hr) : xa_W E M Z kc ks pc ls (.int i :: .ref (ci 0 127) :: st) L hi hr := by
  subst hij
  exact xa_aald_s (some b) hd ha (kd_127 0) (by rw [ln_127]; exact vp_in_nI hlt (by decide)) (by rw [nI_clamp (by omega)]; exact ho) k
theorem xa_acmpC_eq {x y : Nat} {off : Int} (tgt : Nat) (hd : decode M.2.1 pc = .ok (.if_acmp .eq off, 3)) (ht : (pc : Int) + off = (tgt : Int)) (hx : x ∈ L) (hy : y ∈ L) (kt : x = y → xa_W E M Z kc ks tgt ls st L hi hr) (kf : ¬ x = y → xa_W E M Z kc ks (pc + 3) ls st L hi hr) : xa_W E M Z kc ks pc ls (.ref y :: .ref x :: st) L hi hr :=
  xa_acmp_eq (rx := some x) (ry := some y) tgt hd ht (fun a h => Option.some.inj h ▸ hx) (fun a h => Option.some.inj h ▸ hy) (fun h => kt (Option.some.inj h)) (fun h => kf fun g => h (congrArg some g))
theorem xa_acmpC_ne {x y : Nat} {off : Int} (tgt : Nat) (hd : decode M.2.1 pc = .ok (.if_acmp .ne off, 3)) (ht : (pc : Int) + off = (tgt : Int)) (hx : x ∈ L) (hy : y ∈ L) (kt : ¬ x = y → xa_W E M Z kc ks tgt ls st L hi hr) (kf : x = y → xa_W E M Z kc ks (pc + 3) ls st L hi hr) : xa_W E M Z kc ks pc ls (.ref y :: .ref x :: st) L hi hr :=
  xa_acmp_ne (rx := some x) (ry := some y) tgt hd ht (fun a h => Option.some.inj h ▸ hx) (fun a h => Option.some.inj h ▸ hy) (fun h => kt fun g => h (congrArg some g)) (fun h => kf (Option.some.inj h))
end CX1
/-- the answer is that cell, or null -/
def xa_pH (c : Bool) (b : Nat) (hi : xa_AH) (hr : xa_AR) : Option Value → xa_AH → xa_AR → Prop := fun r h1 h2 => ((c = true ∧ some (.ref b) = r) ∨ (c = false ∧ some .null = r)) ∧ hi = h1 ∧ hr = h2
/-! bits -/
def bset (x : Int32) (s : Nat) : Int32 := x ||| (1 <<< (nI s &&& 31))
def bclr (x : Int32) (s : Nat) : Int32 := x &&& ((1 <<< (nI s &&& 31)) ^^^ (-1))
theorem b_1 {i : Nat} : bt 1 i = decide (i = 0) := by
  rcases Nat.lt_or_ge i 32 with h | h
  · exact (by decide +kernel : ∀ i, i < 32 → bt 1 i = decide (i = 0)) i h
  · rw [b_big h, decide_eq_false (by omega)]
theorem b_bit {s i : Nat} (hs : s < 32) : bt (1 <<< (nI s &&& 31)) i = decide (i = s) := by
  rcases Nat.lt_or_ge i 32 with h | h
  · rw [b_shl s hs 1 h, b_1]
    by_cases e : i = s
    · subst e; simp
    · rw [decide_eq_false e]
      by_cases g : s ≤ i
      · have : ¬ i - s = 0 := by omega
        simp [this]
      · simp [g]
  · rw [b_big h, decide_eq_false (by omega)]
theorem bt_bset {x : Int32} {s i : Nat} (hs : s < 32) : bt (bset x s) i = (bt x i || decide (i = s)) := by
  unfold bset; rw [b_or, b_bit hs]
theorem bt_bclr {x : Int32} {s i : Nat} (hs : s < 32) : bt (bclr x s) i = (bt x i && !decide (i = s)) := by
  unfold bclr
  rcases Nat.lt_or_ge i 32 with h | h
  · rw [b_and, b_xor, b_bit hs, b_m1 i h]; cases bt x i <;> cases decide (i = s) <;> rfl
  · rw [b_big h, b_big h]; rfl
theorem bt_zero {x : Int32} : x = 0 ↔ ∀ i, i < 32 → bt x i = false := ⟨fun h i _ => by rw [h, b_0], fun h => b_ext fun i hi => by rw [h i hi, b_0]⟩
theorem bt_and1 {x : Int32} : x &&& 1 = 0 ↔ bt x 0 = false := by
  rw [bt_zero]
  constructor
  · intro h
    have := h 0 (by decide)
    rw [b_and, b_1] at this; simpa using this
  · intro h i hi
    rw [b_and, b_1]
    by_cases e : i = 0
    · subst e; simp [h]
    · simp [e]
theorem bt_and1' {x : Int32} : x &&& 1 = 1 ↔ bt x 0 = true := by
  constructor
  · intro h
    cases hb : bt x 0 with
    | true => rfl
    | false => rw [bt_and1.mpr hb] at h; exact absurd h (by decide)
  · intro h
    apply b_ext
    intro i hi
    rw [b_and, b_1]
    by_cases e : i = 0
    · subst e; simp [h]
    · simp [e]
theorem bt_isIn {x : Int32} {n : Nat} (hn : n < 32) : (x.toUInt32 >>> ((nI n).toUInt32 &&& Int32.toUInt32 31)).toInt32 &&& 1 = 0 ↔ bt x n = false := by
  rw [bt_and1, b_ushr n hn]; rfl
theorem bt_sin {x : Int32} {n : Nat} (hn : n < 32) : (x >>> (nI n &&& 31)) &&& 1 = 1 ↔ bt x n = true := by
  rw [bt_and1', b_sshr n hn x (by decide), if_pos (by omega)]; rfl
theorem bt_sin0 {x : Int32} {n : Nat} (hn : n < 32) : (x >>> (nI n &&& 31)) &&& 1 = 0 ↔ bt x n = false := by
  rw [bt_and1, b_sshr n hn x (by decide), if_pos (by omega)]; rfl
set_option maxHeartbeats 4000000 in
theorem cx_isIn (E : xa_EV) {L : List Nat} {T : xa_AH} {R : xa_AR} (x : Int32) {n : Nat} {xn : Int32} (en : xn = nI n) (hn : n < 32) : xa_Ct E mX7_isIn [.int x, .int xn] L T R (xa_pR (.int (xa_b (bt x n))) T R) := by
  subst en
  refine xa_Ct.of [some (.int x), some (.int (nI n))] rfl (Nat.le_of_ble_eq_true rfl) (by simp [Value.category]) rfl ?_
  refine xa_iload_n (pc := 0) dX7_isIn_0 rfl ?_
  refine xa_iload_n (pc := 1) dX7_isIn_1 rfl ?_
  refine xa_iushr (pc := 2) dX7_isIn_2 ?_
  refine xa_iconst (pc := 3) (v := 1) dX7_isIn_3 (by decide) ?_
  refine xa_iand (pc := 4) dX7_isIn_4 ?_
  refine xa_if_eq (pc := 5) 12 dX7_isIn_5 (by decide) (fun h5 => ?_) (fun h5 => ?_)
  · refine xa_iconst (pc := 12) (v := 0) dX7_isIn_12 (by decide) ?_
    exact xa_zret dX7_isIn_13 rfl (by decide) ⟨xa_r0 ((bt_isIn hn).mp h5), rfl, rfl⟩
  · refine xa_iconst (pc := 8) (v := 1) dX7_isIn_8 (by decide) ?_
    refine xa_goto (pc := 9) (tgt := 13) dX7_isIn_9 (by decide) ?_
    exact xa_zret dX7_isIn_13 rfl (by decide) ⟨xa_r1 (by have := mt (bt_isIn hn).mpr h5; simpa using this), rfl, rfl⟩
set_option maxHeartbeats 4000000 in
theorem cx_isNet (E : xa_EV) {L : List Nat} {T : xa_AH} {R : xa_AR} (x : Int32) : xa_Ct E mX7_isNet [.int x] L T R (xa_pR (.int (xa_b (xm_in x 0 3))) T R) := by
  refine xa_Ct.of [some (.int x)] rfl (Nat.le_of_ble_eq_true rfl) (by simp [Value.category]) rfl ?_
  refine xa_iload_n (pc := 0) dX7_isNet_0 rfl ?_
  refine xa_if_lt (pc := 1) 13 dX7_isNet_1 (by decide) (fun h1 => ?_) (fun h1 => ?_)
  · refine xa_iconst (pc := 13) (v := 0) dX7_isNet_13 (by decide) ?_
    exact xa_zret dX7_isNet_14 rfl (by decide) ⟨xa_r0 (xm_in_f.mpr (by simp only [fa_lt, fa_le] at *; have e0 : (0 : Int32).toInt = 0 := rfl; have e1 : (3 : Int32).toInt = 3 := rfl; have e2 : (4 : Int32).toInt = 4 := rfl; omega)), rfl, rfl⟩
  · refine xa_iload_n (pc := 4) dX7_isNet_4 rfl ?_
    refine xa_iconst (pc := 5) (v := 4) dX7_isNet_5 (by decide) ?_
    refine xa_icmp_ge (pc := 6) 13 dX7_isNet_6 (by decide) (fun h6 => ?_) (fun h6 => ?_)
    · refine xa_iconst (pc := 13) (v := 0) dX7_isNet_13 (by decide) ?_
      exact xa_zret dX7_isNet_14 rfl (by decide) ⟨xa_r0 (xm_in_f.mpr (by simp only [fa_lt, fa_le] at *; have e0 : (0 : Int32).toInt = 0 := rfl; have e1 : (3 : Int32).toInt = 3 := rfl; have e2 : (4 : Int32).toInt = 4 := rfl; omega)), rfl, rfl⟩
    · refine xa_iconst (pc := 9) (v := 1) dX7_isNet_9 (by decide) ?_
      refine xa_goto (pc := 10) (tgt := 14) dX7_isNet_10 (by decide) ?_
      exact xa_zret dX7_isNet_14 rfl (by decide) ⟨xa_r1 (xm_in_t.mpr (by simp only [fa_lt, fa_le] at *; have e0 : (0 : Int32).toInt = 0 := rfl; have e1 : (3 : Int32).toInt = 3 := rfl; have e2 : (4 : Int32).toInt = 4 := rfl; omega)), rfl, rfl⟩
set_option maxHeartbeats 4000000 in
theorem cx_isKind (E : xa_EV) {L : List Nat} {T : xa_AH} {R : xa_AR} (x : Int32) : xa_Ct E mX7_isKind [.int x] L T R (xa_pR (.int (xa_b (xm_in x 0 15))) T R) := by
  refine xa_Ct.of [some (.int x)] rfl (Nat.le_of_ble_eq_true rfl) (by simp [Value.category]) rfl ?_
  refine xa_iload_n (pc := 0) dX7_isKind_0 rfl ?_
  refine xa_if_lt (pc := 1) 14 dX7_isKind_1 (by decide) (fun h1 => ?_) (fun h1 => ?_)
  · refine xa_iconst (pc := 14) (v := 0) dX7_isKind_14 (by decide) ?_
    exact xa_zret dX7_isKind_15 rfl (by decide) ⟨xa_r0 (xm_in_f.mpr (by simp only [fa_lt, fa_le] at *; have e0 : (0 : Int32).toInt = 0 := rfl; have e1 : (15 : Int32).toInt = 15 := rfl; have e2 : (16 : Int32).toInt = 16 := rfl; omega)), rfl, rfl⟩
  · refine xa_iload_n (pc := 4) dX7_isKind_4 rfl ?_
    refine xa_bipush (pc := 5) (v := 16) dX7_isKind_5 (by decide) ?_
    refine xa_icmp_ge (pc := 7) 14 dX7_isKind_7 (by decide) (fun h7 => ?_) (fun h7 => ?_)
    · refine xa_iconst (pc := 14) (v := 0) dX7_isKind_14 (by decide) ?_
      exact xa_zret dX7_isKind_15 rfl (by decide) ⟨xa_r0 (xm_in_f.mpr (by simp only [fa_lt, fa_le] at *; have e0 : (0 : Int32).toInt = 0 := rfl; have e1 : (15 : Int32).toInt = 15 := rfl; have e2 : (16 : Int32).toInt = 16 := rfl; omega)), rfl, rfl⟩
    · refine xa_iconst (pc := 10) (v := 1) dX7_isKind_10 (by decide) ?_
      refine xa_goto (pc := 11) (tgt := 15) dX7_isKind_11 (by decide) ?_
      exact xa_zret dX7_isKind_15 rfl (by decide) ⟨xa_r1 (xm_in_t.mpr (by simp only [fa_lt, fa_le] at *; have e0 : (0 : Int32).toInt = 0 := rfl; have e1 : (15 : Int32).toInt = 15 := rfl; have e2 : (16 : Int32).toInt = 16 := rfl; omega)), rfl, rfl⟩
set_option maxHeartbeats 4000000 in
theorem cx_areMarks (E : xa_EV) {L : List Nat} {T : xa_AH} {R : xa_AR} (x : Int32) : xa_Ct E mX7_areMarks [.int x] L T R (xa_pR (.int (xa_b (xm_in x 0 255))) T R) := by
  refine xa_Ct.of [some (.int x)] rfl (Nat.le_of_ble_eq_true rfl) (by simp [Value.category]) rfl ?_
  refine xa_iload_n (pc := 0) dX7_areMarks_0 rfl ?_
  refine xa_if_lt (pc := 1) 15 dX7_areMarks_1 (by decide) (fun h1 => ?_) (fun h1 => ?_)
  · refine xa_iconst (pc := 15) (v := 0) dX7_areMarks_15 (by decide) ?_
    exact xa_zret dX7_areMarks_16 rfl (by decide) ⟨xa_r0 (xm_in_f.mpr (by simp only [fa_lt, fa_le] at *; have e0 : (0 : Int32).toInt = 0 := rfl; have e1 : (255 : Int32).toInt = 255 := rfl; have e2 : (255 : Int32).toInt = 255 := rfl; omega)), rfl, rfl⟩
  · refine xa_iload_n (pc := 4) dX7_areMarks_4 rfl ?_
    refine xa_sipush (pc := 5) (v := 255) dX7_areMarks_5 (by decide) ?_
    refine xa_icmp_gt (pc := 8) 15 dX7_areMarks_8 (by decide) (fun h8 => ?_) (fun h8 => ?_)
    · refine xa_iconst (pc := 15) (v := 0) dX7_areMarks_15 (by decide) ?_
      exact xa_zret dX7_areMarks_16 rfl (by decide) ⟨xa_r0 (xm_in_f.mpr (by simp only [fa_lt, fa_le] at *; have e0 : (0 : Int32).toInt = 0 := rfl; have e1 : (255 : Int32).toInt = 255 := rfl; have e2 : (255 : Int32).toInt = 255 := rfl; omega)), rfl, rfl⟩
    · refine xa_iconst (pc := 11) (v := 1) dX7_areMarks_11 (by decide) ?_
      refine xa_goto (pc := 12) (tgt := 16) dX7_areMarks_12 (by decide) ?_
      exact xa_zret dX7_areMarks_16 rfl (by decide) ⟨xa_r1 (xm_in_t.mpr (by simp only [fa_lt, fa_le] at *; have e0 : (0 : Int32).toInt = 0 := rfl; have e1 : (255 : Int32).toInt = 255 := rfl; have e2 : (255 : Int32).toInt = 255 := rfl; omega)), rfl, rfl⟩
set_option maxHeartbeats 4000000 in
theorem cx_has (E : xa_EV) {L : List Nat} {T : xa_AH} {R : xa_AR} {h : Nat} (hS : cs_h L R h) {s : Nat} {xs : Int32} (es : xs = nI s) (hs : s < 32)  : xa_Ct E mX6_has [.ref (ci h 1), .int xs] L T R (xa_pR (.int (xa_b (bt (T (ci h 1) 4) s))) T R) := by
  subst es
  refine xa_Ct.of [some (.ref (ci h 1)), some (.int (nI s))] rfl (Nat.le_of_ble_eq_true rfl) (by simp [Value.category]) rfl ?_
  refine xa_aload_n (pc := 0) dX6_has_0 rfl ?_
  refine xa_getI (pc := 1) 6 4 lfX6_24 dX6_has_1 (hS.1 1 (by decide)) (kd_1 _) rfl ?_
  refine xa_iload_n (pc := 4) dX6_has_4 rfl ?_
  refine xa_callSN (pc := 5) lcX6_28 dX6_has_5 (cx_isIn E _ (n := s) rfl (by omega)) rfl rfl (by decide) (Nat.le_of_ble_eq_true rfl) (by decide) ?_
  rintro _ _ _ ⟨rfl, rfl, rfl⟩
  exact xa_zret dX6_has_8 rfl (xa_b_nar _) ⟨rfl, rfl, rfl⟩
set_option maxHeartbeats 4000000 in
theorem cx_left (E : xa_EV) {L : List Nat} {T : xa_AH} {R : xa_AR} {h : Nat} (hS : cs_h L R h) {s : Nat} {xs : Int32} (es : xs = nI s) (hs : s < 32) (t : Int32) : xa_Ct E mX6_left [.ref (ci h 1), .int xs, .int t] L T R (xa_pR (.int (T (ci h 5) s - t)) T R) := by
  subst es
  refine xa_Ct.of [some (.ref (ci h 1)), some (.int (nI s)), some (.int t)] rfl (Nat.le_of_ble_eq_true rfl) (by simp [Value.category]) rfl ?_
  refine xa_aload_n (pc := 0) dX6_left_0 rfl ?_
  refine xa_getA (pc := 1) 6 3 (ci h 5) lfX6_21 dX6_left_1 (hS.1 1 (by decide)) (kd_1 _) rfl (hS.2 (1, 3, 5) (by decide)) ?_
  refine xa_iload_n (pc := 4) dX6_left_4 rfl ?_
  refine xa_ialdC (pc := 5) s _ dX6_left_5 (hS.1 5 (by decide)) (kd_5 _) (ln_5 _) rfl (by omega) (by decide) rfl ?_
  refine xa_iload_n (pc := 6) dX6_left_6 rfl ?_
  refine xa_isub (pc := 7) dX6_left_7 ?_
  exact xa_zret dX6_left_8 rfl rfl ⟨rfl, rfl, rfl⟩
set_option maxHeartbeats 4000000 in
theorem cx_isFresh (E : xa_EV) {L : List Nat} {T : xa_AH} {R : xa_AR} {h : Nat} (hS : cs_h L R h) {s : Nat} {xs : Int32} (es : xs = nI s) (hs : s < 32) (t : Int32) : xa_Ct E mX6_isFresh [.ref (ci h 1), .int xs, .int t] L T R (xa_pR (.int (xa_b (bt (T (ci h 1) 4) s && decide (¬ 2 * (T (ci h 5) s - t) ≤ T (ci h 4) s)))) T R) := by
  subst es
  refine xa_Ct.of [some (.ref (ci h 1)), some (.int (nI s)), some (.int t)] rfl (Nat.le_of_ble_eq_true rfl) (by simp [Value.category]) rfl ?_
  refine xa_aload_n (pc := 0) dX6_isFresh_0 rfl ?_
  refine xa_getI (pc := 1) 6 4 lfX6_24 dX6_isFresh_1 (hS.1 1 (by decide)) (kd_1 _) rfl ?_
  refine xa_iload_n (pc := 4) dX6_isFresh_4 rfl ?_
  refine xa_callSN (pc := 5) lcX6_28 dX6_isFresh_5 (cx_isIn E _ (n := s) rfl (by omega)) rfl rfl (by decide) (Nat.le_of_ble_eq_true rfl) (by decide) ?_
  rintro _ _ _ ⟨rfl, rfl, rfl⟩
  refine xa_if_eq (pc := 8) 34 dX6_isFresh_8 (by decide) (fun h8 => ?_) (fun h8 => ?_)
  · have h8 := xa_b_0.mp h8
    refine xa_iconst (pc := 34) (v := 0) dX6_isFresh_34 (by decide) ?_
    exact xa_zret dX6_isFresh_35 rfl (by decide) ⟨xa_r0 (by simp [h8]), rfl, rfl⟩
  · have h8 := xa_b_n0.mp h8
    refine xa_iconst (pc := 11) (v := 2) dX6_isFresh_11 (by decide) ?_
    refine xa_aload_n (pc := 12) dX6_isFresh_12 rfl ?_
    refine xa_getA (pc := 13) 6 3 (ci h 5) lfX6_21 dX6_isFresh_13 (hS.1 1 (by decide)) (kd_1 _) rfl (hS.2 (1, 3, 5) (by decide)) ?_
    refine xa_iload_n (pc := 16) dX6_isFresh_16 rfl ?_
    refine xa_ialdC (pc := 17) s _ dX6_isFresh_17 (hS.1 5 (by decide)) (kd_5 _) (ln_5 _) rfl (by omega) (by decide) rfl ?_
    refine xa_iload_n (pc := 18) dX6_isFresh_18 rfl ?_
    refine xa_isub (pc := 19) dX6_isFresh_19 ?_
    refine xa_imul (pc := 20) dX6_isFresh_20 ?_
    refine xa_aload_n (pc := 21) dX6_isFresh_21 rfl ?_
    refine xa_getA (pc := 22) 6 2 (ci h 4) lfX6_18 dX6_isFresh_22 (hS.1 1 (by decide)) (kd_1 _) rfl (hS.2 (1, 2, 4) (by decide)) ?_
    refine xa_iload_n (pc := 25) dX6_isFresh_25 rfl ?_
    refine xa_ialdC (pc := 26) s _ dX6_isFresh_26 (hS.1 4 (by decide)) (kd_4 _) (ln_4 _) rfl (by omega) (by decide) rfl ?_
    refine xa_icmp_le (pc := 27) 34 dX6_isFresh_27 (by decide) (fun h27 => ?_) (fun h27 => ?_)
    · refine xa_iconst (pc := 34) (v := 0) dX6_isFresh_34 (by decide) ?_
      exact xa_zret dX6_isFresh_35 rfl (by decide) ⟨xa_r0 (by simp [h8, h27]), rfl, rfl⟩
    · refine xa_iconst (pc := 30) (v := 1) dX6_isFresh_30 (by decide) ?_
      refine xa_goto (pc := 31) (tgt := 35) dX6_isFresh_31 (by decide) ?_
      exact xa_zret dX6_isFresh_35 rfl (by decide) ⟨xa_r1 (by simp [h8, h27]), rfl, rfl⟩
set_option maxHeartbeats 4000000 in
theorem cx_put (E : xa_EV) {L : List Nat} {T : xa_AH} {R : xa_AR} {h : Nat} (hS : cs_h L R h) {s : Nat} {xs : Int32} (es : xs = nI s) (hs : s < 32) (n m l e : Int32) : xa_Ct E mX6_put [.ref (ci h 1), .int xs, .int n, .int m, .int l, .int e] L T R (xa_pV (xa_up (xa_up (xa_up (xa_up (xa_up T (ci h 1) 4 (bset (T (ci h 1) 4) s)) (ci h 2) s n) (ci h 3) s m) (ci h 4) s l) (ci h 5) s e) R) := by
  subst es
  refine xa_Ct.of [some (.ref (ci h 1)), some (.int (nI s)), some (.int n), some (.int m), some (.int l), some (.int e)] rfl (Nat.le_of_ble_eq_true rfl) (by simp [Value.category]) rfl ?_
  refine xa_aload_n (pc := 0) dX6_put_0 rfl ?_
  refine xa_dup (pc := 1) dX6_put_1 rfl ?_
  refine xa_getI (pc := 2) 6 4 lfX6_24 dX6_put_2 (hS.1 1 (by decide)) (kd_1 _) rfl ?_
  refine xa_iconst (pc := 5) (v := 1) dX6_put_5 (by decide) ?_
  refine xa_iload_n (pc := 6) dX6_put_6 rfl ?_
  refine xa_ishl (pc := 7) dX6_put_7 ?_
  refine xa_ior (pc := 8) dX6_put_8 ?_
  refine xa_putI (pc := 9) 6 4 lpX6_24 dX6_put_9 (hS.1 1 (by decide)) (kd_1 _) rfl rfl rfl ?_
  refine xa_aload_n (pc := 12) dX6_put_12 rfl ?_
  refine xa_getA (pc := 13) 6 0 (ci h 2) lfX6_9 dX6_put_13 (hS.1 1 (by decide)) (kd_1 _) rfl (hS.2 (1, 0, 2) (by decide)) ?_
  refine xa_iload_n (pc := 16) dX6_put_16 rfl ?_
  refine xa_iload_n (pc := 17) dX6_put_17 rfl ?_
  refine xa_iastC (pc := 18) s dX6_put_18 (hS.1 2 (by decide)) (kd_2 _) (ln_2 _) rfl (by omega) (by decide) ?_
  refine xa_aload_n (pc := 19) dX6_put_19 rfl ?_
  refine xa_getA (pc := 20) 6 1 (ci h 3) lfX6_15 dX6_put_20 (hS.1 1 (by decide)) (kd_1 _) rfl (hS.2 (1, 1, 3) (by decide)) ?_
  refine xa_iload_n (pc := 23) dX6_put_23 rfl ?_
  refine xa_iload_n (pc := 24) dX6_put_24 rfl ?_
  refine xa_iastC (pc := 25) s dX6_put_25 (hS.1 3 (by decide)) (kd_3 _) (ln_3 _) rfl (by omega) (by decide) ?_
  refine xa_aload_n (pc := 26) dX6_put_26 rfl ?_
  refine xa_getA (pc := 27) 6 2 (ci h 4) lfX6_18 dX6_put_27 (hS.1 1 (by decide)) (kd_1 _) rfl (hS.2 (1, 2, 4) (by decide)) ?_
  refine xa_iload_n (pc := 30) dX6_put_30 rfl ?_
  refine xa_iload (pc := 31) dX6_put_31 rfl ?_
  refine xa_iastC (pc := 33) s dX6_put_33 (hS.1 4 (by decide)) (kd_4 _) (ln_4 _) rfl (by omega) (by decide) ?_
  refine xa_aload_n (pc := 34) dX6_put_34 rfl ?_
  refine xa_getA (pc := 35) 6 3 (ci h 5) lfX6_21 dX6_put_35 (hS.1 1 (by decide)) (kd_1 _) rfl (hS.2 (1, 3, 5) (by decide)) ?_
  refine xa_iload_n (pc := 38) dX6_put_38 rfl ?_
  refine xa_iload (pc := 39) dX6_put_39 rfl ?_
  refine xa_iastC (pc := 41) s dX6_put_41 (hS.1 5 (by decide)) (kd_5 _) (ln_5 _) rfl (by omega) (by decide) ?_
  exact xa_vret dX6_put_42 rfl ⟨rfl, rfl, rfl⟩
set_option maxHeartbeats 4000000 in
theorem cx_remove (E : xa_EV) {L : List Nat} {T : xa_AH} {R : xa_AR} {h : Nat} (hS : cs_h L R h) {s : Nat} {xs : Int32} (es : xs = nI s) (hs : s < 32)  : xa_Ct E mX6_remove [.ref (ci h 1), .int xs] L T R (xa_pV (xa_up T (ci h 1) 4 (bclr (T (ci h 1) 4) s)) R) := by
  subst es
  refine xa_Ct.of [some (.ref (ci h 1)), some (.int (nI s))] rfl (Nat.le_of_ble_eq_true rfl) (by simp [Value.category]) rfl ?_
  refine xa_aload_n (pc := 0) dX6_remove_0 rfl ?_
  refine xa_dup (pc := 1) dX6_remove_1 rfl ?_
  refine xa_getI (pc := 2) 6 4 lfX6_24 dX6_remove_2 (hS.1 1 (by decide)) (kd_1 _) rfl ?_
  refine xa_iconst (pc := 5) (v := 1) dX6_remove_5 (by decide) ?_
  refine xa_iload_n (pc := 6) dX6_remove_6 rfl ?_
  refine xa_ishl (pc := 7) dX6_remove_7 ?_
  refine xa_iconst (pc := 8) (v := (-1)) dX6_remove_8 (by decide) ?_
  refine xa_ixor (pc := 9) dX6_remove_9 ?_
  refine xa_iand (pc := 10) dX6_remove_10 ?_
  refine xa_putI (pc := 11) 6 4 lpX6_24 dX6_remove_11 (hS.1 1 (by decide)) (kd_1 _) rfl rfl rfl ?_
  exact xa_vret dX6_remove_14 rfl ⟨rfl, rfl, rfl⟩
set_option maxHeartbeats 4000000 in
theorem cx_removeAll (E : xa_EV) {L : List Nat} {T : xa_AH} {R : xa_AR} {h : Nat} (hS : cs_h L R h) (x : Int32) : xa_Ct E mX6_removeAll [.ref (ci h 1), .int x] L T R (xa_pV (xa_up T (ci h 1) 4 ((T (ci h 1) 4) &&& (x ^^^ (-1)))) R) := by
  refine xa_Ct.of [some (.ref (ci h 1)), some (.int x)] rfl (Nat.le_of_ble_eq_true rfl) (by simp [Value.category]) rfl ?_
  refine xa_aload_n (pc := 0) dX6_removeAll_0 rfl ?_
  refine xa_dup (pc := 1) dX6_removeAll_1 rfl ?_
  refine xa_getI (pc := 2) 6 4 lfX6_24 dX6_removeAll_2 (hS.1 1 (by decide)) (kd_1 _) rfl ?_
  refine xa_iload_n (pc := 5) dX6_removeAll_5 rfl ?_
  refine xa_iconst (pc := 6) (v := (-1)) dX6_removeAll_6 (by decide) ?_
  refine xa_ixor (pc := 7) dX6_removeAll_7 ?_
  refine xa_iand (pc := 8) dX6_removeAll_8 ?_
  refine xa_putI (pc := 9) 6 4 lpX6_24 dX6_removeAll_9 (hS.1 1 (by decide)) (kd_1 _) rfl rfl rfl ?_
  exact xa_vret dX6_removeAll_12 rfl ⟨rfl, rfl, rfl⟩
set_option maxHeartbeats 4000000 in
theorem cx_clear (E : xa_EV) {L : List Nat} {T : xa_AH} {R : xa_AR} {h : Nat} (hS : cs_h L R h)  : xa_Ct E mX6_clear [.ref (ci h 1)] L T R (xa_pV (xa_up T (ci h 1) 4 0) R) := by
  refine xa_Ct.of [some (.ref (ci h 1))] rfl (Nat.le_of_ble_eq_true rfl) (by simp [Value.category]) rfl ?_
  refine xa_aload_n (pc := 0) dX6_clear_0 rfl ?_
  refine xa_iconst (pc := 1) (v := 0) dX6_clear_1 (by decide) ?_
  refine xa_putI (pc := 2) 6 4 lpX6_24 dX6_clear_2 (hS.1 1 (by decide)) (kd_1 _) rfl rfl rfl ?_
  exact xa_vret dX6_clear_5 rfl ⟨rfl, rfl, rfl⟩
set_option maxHeartbeats 4000000 in
theorem cx_ahas (E : xa_EV) {L : List Nat} {T : xa_AH} {R : xa_AR} {h : Nat} (hS : cs_h L R h) {k : Nat} {xk : Int32} (ek : xk = nI k) (hk : k < 16)  : xa_Ct E mX1_has [.ref (ci h 6), .int xk] L T R (xa_pR (.int (xa_b (bt (T (ci h 6) 2) k))) T R) := by
  subst ek
  refine xa_Ct.of [some (.ref (ci h 6)), some (.int (nI k))] rfl (Nat.le_of_ble_eq_true rfl) (by simp [Value.category]) rfl ?_
  refine xa_aload_n (pc := 0) dX1_has_0 rfl ?_
  refine xa_getI (pc := 1) 1 2 lfX1_18 dX1_has_1 (hS.1 6 (by decide)) (kd_6 _) rfl ?_
  refine xa_iload_n (pc := 4) dX1_has_4 rfl ?_
  refine xa_callSN (pc := 5) lcX1_22 dX1_has_5 (cx_isIn E _ (n := k) rfl (by omega)) rfl rfl (by decide) (Nat.le_of_ble_eq_true rfl) (by decide) ?_
  rintro _ _ _ ⟨rfl, rfl, rfl⟩
  exact xa_zret dX1_has_8 rfl (xa_b_nar _) ⟨rfl, rfl, rfl⟩
set_option maxHeartbeats 4000000 in
theorem cx_aisDue (E : xa_EV) {L : List Nat} {T : xa_AH} {R : xa_AR} {h : Nat} (hS : cs_h L R h) {k : Nat} {xk : Int32} (ek : xk = nI k) (hk : k < 16) (t : Int32) : xa_Ct E mX1_isDue [.ref (ci h 6), .int xk, .int t] L T R (xa_pR (.int (xa_b (bt (T (ci h 6) 2) k && decide (¬ t < T (ci h 8) k)))) T R) := by
  subst ek
  refine xa_Ct.of [some (.ref (ci h 6)), some (.int (nI k)), some (.int t)] rfl (Nat.le_of_ble_eq_true rfl) (by simp [Value.category]) rfl ?_
  refine xa_aload_n (pc := 0) dX1_isDue_0 rfl ?_
  refine xa_iload_n (pc := 1) dX1_isDue_1 rfl ?_
  refine xa_callV (pc := 2) (hS.1 6 (by decide)) (kd_6 _) rfl lcX1_26 dX1_isDue_2 (cx_ahas E hS (k := k) rfl (by omega)) rfl rfl (by decide) (Nat.le_of_ble_eq_true rfl) (by decide) ?_
  rintro _ _ _ ⟨rfl, rfl, rfl⟩
  refine xa_if_eq (pc := 5) 22 dX1_isDue_5 (by decide) (fun h5 => ?_) (fun h5 => ?_)
  · have h5 := xa_b_0.mp h5
    refine xa_iconst (pc := 22) (v := 0) dX1_isDue_22 (by decide) ?_
    exact xa_zret dX1_isDue_23 rfl (by decide) ⟨xa_r0 (by simp [h5]), rfl, rfl⟩
  · have h5 := xa_b_n0.mp h5
    refine xa_aload_n (pc := 8) dX1_isDue_8 rfl ?_
    refine xa_getA (pc := 9) 1 1 (ci h 8) lfX1_15 dX1_isDue_9 (hS.1 6 (by decide)) (kd_6 _) rfl (hS.2 (6, 1, 8) (by decide)) ?_
    refine xa_iload_n (pc := 12) dX1_isDue_12 rfl ?_
    refine xa_ialdC (pc := 13) k _ dX1_isDue_13 (hS.1 8 (by decide)) (kd_8 _) (ln_8 _) rfl (by omega) (by decide) rfl ?_
    refine xa_iload_n (pc := 14) dX1_isDue_14 rfl ?_
    refine xa_icmp_gt (pc := 15) 22 dX1_isDue_15 (by decide) (fun h15 => ?_) (fun h15 => ?_)
    · refine xa_iconst (pc := 22) (v := 0) dX1_isDue_22 (by decide) ?_
      exact xa_zret dX1_isDue_23 rfl (by decide) ⟨xa_r0 (by simp [h5, h15]), rfl, rfl⟩
    · refine xa_iconst (pc := 18) (v := 1) dX1_isDue_18 (by decide) ?_
      refine xa_goto (pc := 19) (tgt := 23) dX1_isDue_19 (by decide) ?_
      exact xa_zret dX1_isDue_23 rfl (by decide) ⟨xa_r1 (by simp [h5, h15]), rfl, rfl⟩
set_option maxHeartbeats 4000000 in
theorem cx_aempty (E : xa_EV) {L : List Nat} {T : xa_AH} {R : xa_AR} {h : Nat} (hS : cs_h L R h)  : xa_Ct E mX1_isEmpty [.ref (ci h 6)] L T R (xa_pR (.int (xa_b (decide ((T (ci h 6) 2) = 0)))) T R) := by
  refine xa_Ct.of [some (.ref (ci h 6))] rfl (Nat.le_of_ble_eq_true rfl) (by simp [Value.category]) rfl ?_
  refine xa_aload_n (pc := 0) dX1_isEmpty_0 rfl ?_
  refine xa_getI (pc := 1) 1 2 lfX1_18 dX1_isEmpty_1 (hS.1 6 (by decide)) (kd_6 _) rfl ?_
  refine xa_if_ne (pc := 4) 11 dX1_isEmpty_4 (by decide) (fun h4 => ?_) (fun h4 => ?_)
  · refine xa_iconst (pc := 11) (v := 0) dX1_isEmpty_11 (by decide) ?_
    exact xa_zret dX1_isEmpty_12 rfl (by decide) ⟨xa_r0 (by simp [h4]), rfl, rfl⟩
  · refine xa_iconst (pc := 7) (v := 1) dX1_isEmpty_7 (by decide) ?_
    refine xa_goto (pc := 8) (tgt := 12) dX1_isEmpty_8 (by decide) ?_
    exact xa_zret dX1_isEmpty_12 rfl (by decide) ⟨xa_r1 (by simp [h4]), rfl, rfl⟩
set_option maxHeartbeats 4000000 in
theorem cx_aput (E : xa_EV) {L : List Nat} {T : xa_AH} {R : xa_AR} {h : Nat} (hS : cs_h L R h) {k : Nat} {xk : Int32} (ek : xk = nI k) (hk : k < 16) (m t : Int32) : xa_Ct E mX1_put [.ref (ci h 6), .int xk, .int m, .int t] L T R (xa_pV (xa_up (xa_up (xa_up T (ci h 6) 2 (bset (T (ci h 6) 2) k)) (ci h 7) k m) (ci h 8) k t) R) := by
  subst ek
  refine xa_Ct.of [some (.ref (ci h 6)), some (.int (nI k)), some (.int m), some (.int t)] rfl (Nat.le_of_ble_eq_true rfl) (by simp [Value.category]) rfl ?_
  refine xa_aload_n (pc := 0) dX1_put_0 rfl ?_
  refine xa_dup (pc := 1) dX1_put_1 rfl ?_
  refine xa_getI (pc := 2) 1 2 lfX1_18 dX1_put_2 (hS.1 6 (by decide)) (kd_6 _) rfl ?_
  refine xa_iconst (pc := 5) (v := 1) dX1_put_5 (by decide) ?_
  refine xa_iload_n (pc := 6) dX1_put_6 rfl ?_
  refine xa_ishl (pc := 7) dX1_put_7 ?_
  refine xa_ior (pc := 8) dX1_put_8 ?_
  refine xa_putI (pc := 9) 1 2 lpX1_18 dX1_put_9 (hS.1 6 (by decide)) (kd_6 _) rfl rfl rfl ?_
  refine xa_aload_n (pc := 12) dX1_put_12 rfl ?_
  refine xa_getA (pc := 13) 1 0 (ci h 7) lfX1_9 dX1_put_13 (hS.1 6 (by decide)) (kd_6 _) rfl (hS.2 (6, 0, 7) (by decide)) ?_
  refine xa_iload_n (pc := 16) dX1_put_16 rfl ?_
  refine xa_iload_n (pc := 17) dX1_put_17 rfl ?_
  refine xa_iastC (pc := 18) k dX1_put_18 (hS.1 7 (by decide)) (kd_7 _) (ln_7 _) rfl (by omega) (by decide) ?_
  refine xa_aload_n (pc := 19) dX1_put_19 rfl ?_
  refine xa_getA (pc := 20) 1 1 (ci h 8) lfX1_15 dX1_put_20 (hS.1 6 (by decide)) (kd_6 _) rfl (hS.2 (6, 1, 8) (by decide)) ?_
  refine xa_iload_n (pc := 23) dX1_put_23 rfl ?_
  refine xa_iload_n (pc := 24) dX1_put_24 rfl ?_
  refine xa_iastC (pc := 25) k dX1_put_25 (hS.1 8 (by decide)) (kd_8 _) (ln_8 _) rfl (by omega) (by decide) ?_
  exact xa_vret dX1_put_26 rfl ⟨rfl, rfl, rfl⟩
set_option maxHeartbeats 4000000 in
theorem cx_aremove (E : xa_EV) {L : List Nat} {T : xa_AH} {R : xa_AR} {h : Nat} (hS : cs_h L R h) {k : Nat} {xk : Int32} (ek : xk = nI k) (hk : k < 16)  : xa_Ct E mX1_remove [.ref (ci h 6), .int xk] L T R (xa_pV (xa_up T (ci h 6) 2 (bclr (T (ci h 6) 2) k)) R) := by
  subst ek
  refine xa_Ct.of [some (.ref (ci h 6)), some (.int (nI k))] rfl (Nat.le_of_ble_eq_true rfl) (by simp [Value.category]) rfl ?_
  refine xa_aload_n (pc := 0) dX1_remove_0 rfl ?_
  refine xa_dup (pc := 1) dX1_remove_1 rfl ?_
  refine xa_getI (pc := 2) 1 2 lfX1_18 dX1_remove_2 (hS.1 6 (by decide)) (kd_6 _) rfl ?_
  refine xa_iconst (pc := 5) (v := 1) dX1_remove_5 (by decide) ?_
  refine xa_iload_n (pc := 6) dX1_remove_6 rfl ?_
  refine xa_ishl (pc := 7) dX1_remove_7 ?_
  refine xa_iconst (pc := 8) (v := (-1)) dX1_remove_8 (by decide) ?_
  refine xa_ixor (pc := 9) dX1_remove_9 ?_
  refine xa_iand (pc := 10) dX1_remove_10 ?_
  refine xa_putI (pc := 11) 1 2 lpX1_18 dX1_remove_11 (hS.1 6 (by decide)) (kd_6 _) rfl rfl rfl ?_
  exact xa_vret dX1_remove_14 rfl ⟨rfl, rfl, rfl⟩
set_option maxHeartbeats 4000000 in
theorem cx_aclear (E : xa_EV) {L : List Nat} {T : xa_AH} {R : xa_AR} {h : Nat} (hS : cs_h L R h)  : xa_Ct E mX1_clear [.ref (ci h 6)] L T R (xa_pV (xa_up T (ci h 6) 2 0) R) := by
  refine xa_Ct.of [some (.ref (ci h 6))] rfl (Nat.le_of_ble_eq_true rfl) (by simp [Value.category]) rfl ?_
  refine xa_aload_n (pc := 0) dX1_clear_0 rfl ?_
  refine xa_iconst (pc := 1) (v := 0) dX1_clear_1 (by decide) ?_
  refine xa_putI (pc := 2) 1 2 lpX1_18 dX1_clear_2 (hS.1 6 (by decide)) (kd_6 _) rfl rfl rfl ?_
  exact xa_vret dX1_clear_5 rfl ⟨rfl, rfl, rfl⟩
set_option maxHeartbeats 4000000 in
theorem cx_nisDue (E : xa_EV) {L : List Nat} {T : xa_AH} {R : xa_AR} {h : Nat} (hS : cs_h L R h) {s : Nat} {xs : Int32} (es : xs = nI s) (hs : s < 32) (t : Int32) : xa_Ct E mX0_isDue [.ref (ci h 9), .int xs, .int t] L T R (xa_pR (.int (xa_b (bt (T (ci h 9) 1) s && decide (¬ t < T (ci h 10) s)))) T R) := by
  subst es
  refine xa_Ct.of [some (.ref (ci h 9)), some (.int (nI s)), some (.int t)] rfl (Nat.le_of_ble_eq_true rfl) (by simp [Value.category]) rfl ?_
  refine xa_aload_n (pc := 0) dX0_isDue_0 rfl ?_
  refine xa_getI (pc := 1) 0 1 lfX0_15 dX0_isDue_1 (hS.1 9 (by decide)) (kd_9 _) rfl ?_
  refine xa_iload_n (pc := 4) dX0_isDue_4 rfl ?_
  refine xa_callSN (pc := 5) lcX0_19 dX0_isDue_5 (cx_isIn E _ (n := s) rfl (by omega)) rfl rfl (by decide) (Nat.le_of_ble_eq_true rfl) (by decide) ?_
  rintro _ _ _ ⟨rfl, rfl, rfl⟩
  refine xa_if_eq (pc := 8) 25 dX0_isDue_8 (by decide) (fun h8 => ?_) (fun h8 => ?_)
  · have h8 := xa_b_0.mp h8
    refine xa_iconst (pc := 25) (v := 0) dX0_isDue_25 (by decide) ?_
    exact xa_zret dX0_isDue_26 rfl (by decide) ⟨xa_r0 (by simp [h8]), rfl, rfl⟩
  · have h8 := xa_b_n0.mp h8
    refine xa_aload_n (pc := 11) dX0_isDue_11 rfl ?_
    refine xa_getA (pc := 12) 0 0 (ci h 10) lfX0_9 dX0_isDue_12 (hS.1 9 (by decide)) (kd_9 _) rfl (hS.2 (9, 0, 10) (by decide)) ?_
    refine xa_iload_n (pc := 15) dX0_isDue_15 rfl ?_
    refine xa_ialdC (pc := 16) s _ dX0_isDue_16 (hS.1 10 (by decide)) (kd_10 _) (ln_10 _) rfl (by omega) (by decide) rfl ?_
    refine xa_iload_n (pc := 17) dX0_isDue_17 rfl ?_
    refine xa_icmp_gt (pc := 18) 25 dX0_isDue_18 (by decide) (fun h18 => ?_) (fun h18 => ?_)
    · refine xa_iconst (pc := 25) (v := 0) dX0_isDue_25 (by decide) ?_
      exact xa_zret dX0_isDue_26 rfl (by decide) ⟨xa_r0 (by simp [h8, h18]), rfl, rfl⟩
    · refine xa_iconst (pc := 21) (v := 1) dX0_isDue_21 (by decide) ?_
      refine xa_goto (pc := 22) (tgt := 26) dX0_isDue_22 (by decide) ?_
      exact xa_zret dX0_isDue_26 rfl (by decide) ⟨xa_r1 (by simp [h8, h18]), rfl, rfl⟩
def cx_due (T : xa_AH) (h s : Nat) (t : Int32) : xa_AH := if bt (T (ci h 9) 1) s = false ∨ ¬ T (ci h 10) s ≤ t then (xa_up (xa_up T (ci h 9) 1 (bset (T (ci h 9) 1) s)) (ci h 10) s t) else T
set_option maxHeartbeats 4000000 in
theorem cx_comeDue (E : xa_EV) {L : List Nat} {T : xa_AH} {R : xa_AR} {h : Nat} (hS : cs_h L R h) {s : Nat} {xs : Int32} (es : xs = nI s) (hs : s < 32) (t : Int32) : xa_Ct E mX0_comeDue [.ref (ci h 9), .int xs, .int t] L T R (xa_pV (cx_due T h s t) R) := by
  subst es
  refine xa_Ct.of [some (.ref (ci h 9)), some (.int (nI s)), some (.int t)] rfl (Nat.le_of_ble_eq_true rfl) (by simp [Value.category]) rfl ?_
  refine xa_aload_n (pc := 0) dX0_comeDue_0 rfl ?_
  refine xa_getI (pc := 1) 0 1 lfX0_15 dX0_comeDue_1 (hS.1 9 (by decide)) (kd_9 _) rfl ?_
  refine xa_iload_n (pc := 4) dX0_comeDue_4 rfl ?_
  refine xa_callSN (pc := 5) lcX0_19 dX0_comeDue_5 (cx_isIn E _ (n := s) rfl (by omega)) rfl rfl (by decide) (Nat.le_of_ble_eq_true rfl) (by decide) ?_
  rintro _ _ _ ⟨rfl, rfl, rfl⟩
  refine xa_if_eq (pc := 8) 21 dX0_comeDue_8 (by decide) (fun h8 => ?_) (fun h8 => ?_)
  · have h8 := xa_b_0.mp h8
    refine xa_aload_n (pc := 21) dX0_comeDue_21 rfl ?_
    refine xa_dup (pc := 22) dX0_comeDue_22 rfl ?_
    refine xa_getI (pc := 23) 0 1 lfX0_15 dX0_comeDue_23 (hS.1 9 (by decide)) (kd_9 _) rfl ?_
    refine xa_iconst (pc := 26) (v := 1) dX0_comeDue_26 (by decide) ?_
    refine xa_iload_n (pc := 27) dX0_comeDue_27 rfl ?_
    refine xa_ishl (pc := 28) dX0_comeDue_28 ?_
    refine xa_ior (pc := 29) dX0_comeDue_29 ?_
    refine xa_putI (pc := 30) 0 1 lpX0_15 dX0_comeDue_30 (hS.1 9 (by decide)) (kd_9 _) rfl rfl rfl ?_
    refine xa_aload_n (pc := 33) dX0_comeDue_33 rfl ?_
    refine xa_getA (pc := 34) 0 0 (ci h 10) lfX0_9 dX0_comeDue_34 (hS.1 9 (by decide)) (kd_9 _) rfl (hS.2 (9, 0, 10) (by decide)) ?_
    refine xa_iload_n (pc := 37) dX0_comeDue_37 rfl ?_
    refine xa_iload_n (pc := 38) dX0_comeDue_38 rfl ?_
    refine xa_iastC (pc := 39) s dX0_comeDue_39 (hS.1 10 (by decide)) (kd_10 _) (ln_10 _) rfl (by omega) (by decide) ?_
    exact xa_vret dX0_comeDue_40 rfl ⟨rfl, if_pos (by simp [h8]), rfl⟩
  · have h8 := xa_b_n0.mp h8
    refine xa_aload_n (pc := 11) dX0_comeDue_11 rfl ?_
    refine xa_getA (pc := 12) 0 0 (ci h 10) lfX0_9 dX0_comeDue_12 (hS.1 9 (by decide)) (kd_9 _) rfl (hS.2 (9, 0, 10) (by decide)) ?_
    refine xa_iload_n (pc := 15) dX0_comeDue_15 rfl ?_
    refine xa_ialdC (pc := 16) s _ dX0_comeDue_16 (hS.1 10 (by decide)) (kd_10 _) (ln_10 _) rfl (by omega) (by decide) rfl ?_
    refine xa_iload_n (pc := 17) dX0_comeDue_17 rfl ?_
    refine xa_icmp_le (pc := 18) 40 dX0_comeDue_18 (by decide) (fun h18 => ?_) (fun h18 => ?_)
    · exact xa_vret dX0_comeDue_40 rfl ⟨rfl, if_neg (by simp [h8, h18]), rfl⟩
    · refine xa_aload_n (pc := 21) dX0_comeDue_21 rfl ?_
      refine xa_dup (pc := 22) dX0_comeDue_22 rfl ?_
      refine xa_getI (pc := 23) 0 1 lfX0_15 dX0_comeDue_23 (hS.1 9 (by decide)) (kd_9 _) rfl ?_
      refine xa_iconst (pc := 26) (v := 1) dX0_comeDue_26 (by decide) ?_
      refine xa_iload_n (pc := 27) dX0_comeDue_27 rfl ?_
      refine xa_ishl (pc := 28) dX0_comeDue_28 ?_
      refine xa_ior (pc := 29) dX0_comeDue_29 ?_
      refine xa_putI (pc := 30) 0 1 lpX0_15 dX0_comeDue_30 (hS.1 9 (by decide)) (kd_9 _) rfl rfl rfl ?_
      refine xa_aload_n (pc := 33) dX0_comeDue_33 rfl ?_
      refine xa_getA (pc := 34) 0 0 (ci h 10) lfX0_9 dX0_comeDue_34 (hS.1 9 (by decide)) (kd_9 _) rfl (hS.2 (9, 0, 10) (by decide)) ?_
      refine xa_iload_n (pc := 37) dX0_comeDue_37 rfl ?_
      refine xa_iload_n (pc := 38) dX0_comeDue_38 rfl ?_
      refine xa_iastC (pc := 39) s dX0_comeDue_39 (hS.1 10 (by decide)) (kd_10 _) (ln_10 _) rfl (by omega) (by decide) ?_
      exact xa_vret dX0_comeDue_40 rfl ⟨rfl, if_pos (by simp [h8, h18]), rfl⟩
set_option maxHeartbeats 4000000 in
theorem cx_nremove (E : xa_EV) {L : List Nat} {T : xa_AH} {R : xa_AR} {h : Nat} (hS : cs_h L R h) {s : Nat} {xs : Int32} (es : xs = nI s) (hs : s < 32)  : xa_Ct E mX0_remove [.ref (ci h 9), .int xs] L T R (xa_pV (xa_up T (ci h 9) 1 (bclr (T (ci h 9) 1) s)) R) := by
  subst es
  refine xa_Ct.of [some (.ref (ci h 9)), some (.int (nI s))] rfl (Nat.le_of_ble_eq_true rfl) (by simp [Value.category]) rfl ?_
  refine xa_aload_n (pc := 0) dX0_remove_0 rfl ?_
  refine xa_dup (pc := 1) dX0_remove_1 rfl ?_
  refine xa_getI (pc := 2) 0 1 lfX0_15 dX0_remove_2 (hS.1 9 (by decide)) (kd_9 _) rfl ?_
  refine xa_iconst (pc := 5) (v := 1) dX0_remove_5 (by decide) ?_
  refine xa_iload_n (pc := 6) dX0_remove_6 rfl ?_
  refine xa_ishl (pc := 7) dX0_remove_7 ?_
  refine xa_iconst (pc := 8) (v := (-1)) dX0_remove_8 (by decide) ?_
  refine xa_ixor (pc := 9) dX0_remove_9 ?_
  refine xa_iand (pc := 10) dX0_remove_10 ?_
  refine xa_putI (pc := 11) 0 1 lpX0_15 dX0_remove_11 (hS.1 9 (by decide)) (kd_9 _) rfl rfl rfl ?_
  exact xa_vret dX0_remove_14 rfl ⟨rfl, rfl, rfl⟩
set_option maxHeartbeats 4000000 in
theorem cx_nclear (E : xa_EV) {L : List Nat} {T : xa_AH} {R : xa_AR} {h : Nat} (hS : cs_h L R h)  : xa_Ct E mX0_clear [.ref (ci h 9)] L T R (xa_pV (xa_up T (ci h 9) 1 0) R) := by
  refine xa_Ct.of [some (.ref (ci h 9))] rfl (Nat.le_of_ble_eq_true rfl) (by simp [Value.category]) rfl ?_
  refine xa_aload_n (pc := 0) dX0_clear_0 rfl ?_
  refine xa_iconst (pc := 1) (v := 0) dX0_clear_1 (by decide) ?_
  refine xa_putI (pc := 2) 0 1 lpX0_15 dX0_clear_2 (hS.1 9 (by decide)) (kd_9 _) rfl rfl rfl ?_
  exact xa_vret dX0_clear_5 rfl ⟨rfl, rfl, rfl⟩
