/-! ===== the relation between the class's cells T, R and the reference's S ===== -/
def lt (R : xa_AR) (h : Nat) : Nat := (R (ci h 0) 15).getD 0
def l2 (R : xa_AR) (h : Nat) : Nat := (R (ci h 80) 2).getD 0
def wh (R : xa_AR) (h : Nat) : Nat := (R (ci h 80) 3).getD 0
def w2 (R : xa_AR) (h : Nat) : Nat := (R (ci h 80) 4).getD 0
/-- what a host is, as the class says it -/
def xs (S : xa_AH) (h : Nat) : Int32 := if S 137 h = 0 then S 136 h else 3
/-- letter q is row r; what was borne is less by nb -/
def lr (T : xa_AH) (q : Nat) (S : xa_AH) (r : Nat) (nb : Int32) : Prop :=
  (∀ k, k < 16 → bt (T q 1) k = decide (¬ S 179 (16 * r + k) = 0) ∧ (¬ S 179 (16 * r + k) = 0 → T (q + 3) k = S 180 (16 * r + k) ∧ T (q + 4) k = S 181 (16 * r + k) ∧ T (q + 5) k ||| nb = S 182 (16 * r + k)))
  ∧ (∀ k, 16 ≤ k → bt (T q 1) k = false)
  ∧ (∀ s, s < 32 → (bt (T q 5) s = decide (0 < S 183 (32 * r + s)) ∧ (0 < S 183 (32 * r + s) → T (q + 7) s = S 183 (32 * r + s) ∧ T (q + 8) s ||| nb = S 184 (32 * r + s)))
    ∧ (bt (T q 8) s = decide (¬ S 185 (32 * r + s) = 0) ∧ (¬ S 185 (32 * r + s) = 0 → T (q + 10) s ||| nb = S 186 (32 * r + s)))
    ∧ (bt (T q 10) s = decide (0 < S 187 (32 * r + s)) ∧ (0 < S 187 (32 * r + s) → T (q + 12) s = S 187 (32 * r + s) ∧ T (q + 13) s = S 188 (32 * r + s) ∧ T (q + 14) s = S 189 (32 * r + s) ∧ T (q + 15) s ||| nb = S 190 (32 * r + s) ∧ vp_in (S 189 (32 * r + s)) 201)))
def rowc (S : xa_AH) (r : Nat) : Prop := (∀ k, k < 16 → S 179 (16 * r + k) = 0) ∧ ∀ s, s < 32 → S 183 (32 * r + s) = 0 ∧ S 185 (32 * r + s) = 0 ∧ S 187 (32 * r + s) = 0
def lne (T : xa_AH) (q : Nat) : Bool := !decide (lx_all T q = 0)
/-- a letter that was written by host i stands in row r -/
def lrow (T S : xa_AH) (i q r : Nat) : Prop := S 176 r = nI i ∧ S 177 r = T q 0 ∧ vp_in (T q 0) 4 ∧ lr T q S r (1 <<< (T q 0 &&& 31))
def rx_c (nh ns : Nat) (L : List Nat) (R : xa_AR) : Prop := (ci 0 129 ∈ L) ∧ (ci 0 126 ∈ L) ∧ (ci 0 127 ∈ L) ∧ (R (ci 0 129) 0 = some (ci 0 126)) ∧ (R (ci 0 129) 1 = some (ci 0 127)) ∧ (∀ h, h < nh → cs_h L R h ∧ R (ci 0 126) h = some (ci h 0)) ∧ (∀ s, s < ns → ci s 128 ∈ L ∧ R (ci 0 127) s = some (ci s 128)) ∧ (∀ a k b, R a k = some b → b ∈ L) ∧ (∀ h r, nh ≤ h → r < 126 → ¬ ci h r ∈ L) ∧ (∀ s, ns ≤ s → ¬ ci s 128 ∈ L) ∧ (∀ a, a ∈ L → a % 256 < 130)
def rx_l (nh : Nat) (L : List Nat) (R : xa_AR) (S : xa_AH) : Prop := ∀ h, h < nh → (R (ci h 0) 15 = some (lt R h)) ∧ (cs_l L R (lt R h)) ∧ (lt R h = ci h 16 ∨ lt R h = ci h 48) ∧ (S 139 h = 0 → lt R h = ci h 16) ∧ (¬ S 139 h = 0 → ci h 80 ∈ L ∧ R (ci h 80) 2 = some (l2 R h) ∧ R (ci h 80) 3 = some (wh R h) ∧ R (ci h 80) 4 = some (w2 R h) ∧ cs_l L R (l2 R h) ∧ cs_l L R (wh R h) ∧ cs_l L R (w2 R h) ∧ ((lt R h = ci h 16 ∧ wh R h = ci h 48) ∨ (lt R h = ci h 48 ∧ wh R h = ci h 16)) ∧ ((l2 R h = ci h 32 ∧ w2 R h = ci h 64) ∨ (l2 R h = ci h 64 ∧ w2 R h = ci h 32))) ∧ (S 139 h = 0 → ∀ r, 32 ≤ r → r < 126 → ¬ ci h r ∈ L)
def rx_g (nh ns : Nat) (T S : xa_AH) : Prop := (T (ci 0 129) 2 = nI nh) ∧ (T (ci 0 129) 3 = nI ns) ∧ (T (ci 0 129) 4 = S 130 36) ∧ (T (ci 0 129) 5 = S 130 37) ∧ (T (ci 0 129) 6 = S 130 43) ∧ (T (ci 0 129) 7 = S 130 38) ∧ (T (ci 0 129) 8 = S 130 39) ∧ (T (ci 0 129) 9 = S 130 40) ∧ (T (ci 0 129) 10 = S 130 41) ∧ (T (ci 0 129) 11 = S 130 42) ∧ (T (ci 0 129) 12 = S 130 44)
def rx_h (nh : Nat) (T : xa_AH) (R : xa_AR) (S : xa_AH) : Prop := ∀ h, h < nh → (T (ci h 0) 0 = nI h) ∧ (T (ci h 0) 1 = S 133 h) ∧ (T (ci h 0) 2 = S 134 h) ∧ (T (ci h 0) 3 = S 135 h) ∧ (T (ci h 0) 7 = S 131 h) ∧ (T (ci h 0) 8 = xs S h) ∧ (T (ci h 0) 9 = S 138 h) ∧ (T (ci h 0) 12 = S 143 h) ∧ (T (ci h 0) 13 = S 144 h) ∧ (T (ci h 0) 14 = S 142 h) ∧ (S 139 h = 0 → R (ci h 0) 11 = none) ∧ (¬ S 139 h = 0 → R (ci h 0) 11 = some (ci h 80)) ∧ (¬ S 139 h = 0 → T (ci h 80) 0 = S 140 h) ∧ (¬ S 139 h = 0 → T (ci h 80) 1 = S 132 h) ∧ (S 136 h = 1 → R (ci h 0) 10 = some (ci (xc (S 141 h)) 0)) ∧ (∀ a, R (ci h 0) 10 = some a → ∃ j, j < nh ∧ a = ci j 0)
def rx_s (ns : Nat) (T : xa_AH) (R : xa_AR) (S : xa_AH) : Prop := ∀ s, s < ns → (T (ci s 128) 0 = nI s) ∧ (R (ci s 128) 1 = some (ci (xc (S 146 s)) 0)) ∧ (T (ci s 128) 2 = S 147 s) ∧ (T (ci s 128) 3 = S 150 s) ∧ (T (ci s 128) 4 = S 156 s) ∧ (T (ci s 128) 5 = S 148 s) ∧ (T (ci s 128) 6 = S 149 s) ∧ (T (ci s 128) 7 = S 151 s) ∧ (S 151 s = 1 → T (ci s 128) 8 = S 152 s) ∧ (S 151 s = 2 → T (ci s 128) 9 = S 153 s) ∧ (T (ci s 128) 10 = S 155 s) ∧ (T (ci s 128) 11 = S 154 s)
def rx_r (nh : Nat) (T S : xa_AH) : Prop := ∀ h, h < nh → ∀ s, s < 32 → (bt (T (ci h 1) 4) s = decide (¬ S 158 (32 * h + s) = 0)) ∧ (T (ci h 2) s = S 159 (32 * h + s)) ∧ (T (ci h 3) s = S 160 (32 * h + s)) ∧ (T (ci h 4) s = S 161 (32 * h + s)) ∧ (T (ci h 5) s = S 162 (32 * h + s)) ∧ (bt (T (ci h 9) 1) s = decide (¬ S 163 (32 * h + s) = -1)) ∧ (¬ S 163 (32 * h + s) = -1 → T (ci h 10) s = S 163 (32 * h + s))
def rx_a (nh : Nat) (T S : xa_AH) : Prop := ∀ h, h < nh → ∀ k, k < 16 → (bt (T (ci h 6) 2) k = decide (¬ S 164 (16 * h + k) = 0)) ∧ (T (ci h 7) k = S 165 (16 * h + k)) ∧ (T (ci h 8) k = S 166 (16 * h + k))
def rx_b (nh : Nat) (T : xa_AH) : Prop := (∀ h, h < nh → ∀ k, 16 ≤ k → bt (T (ci h 6) 2) k = false)
def rx_w (nh : Nat) (T : xa_AH) (R : xa_AR) (S : xa_AH) : Prop := ∀ h, h < nh → (S 139 h = 0 → rowc S (24 + 2 * h) ∧ rowc S (24 + 2 * h + 1)) ∧ (¬ S 139 h = 0 → ¬ S 136 h = 0 → lr T (wh R h) S (24 + 2 * h) 0 ∧ lr T (w2 R h) S (24 + 2 * h + 1) 0)
def rx_p (k : Nat) (pw : Nat → Nat) (T : xa_AH) (R : xa_AR) (S : xa_AH) : Prop := ∀ i, i < k → (pw (i + 1) = pw i + (if lne T (lt R i) = true then 1 else 0) + (if ¬ S 139 i = 0 ∧ lne T (l2 R i) = true then 1 else 0)) ∧ (S 137 i = 0) ∧ (lne T (lt R i) = true → lrow T S i (lt R i) (pw i)) ∧ (¬ S 139 i = 0 → lne T (l2 R i) = true → lrow T S i (l2 R i) (pw i + (if lne T (lt R i) = true then 1 else 0)))
def iv_h (nh : Nat) (S : xa_AH) : Prop := ∀ h, h < nh → (S 136 h = 0 ∨ S 136 h = 1 ∨ S 136 h = 2) ∧ (S 137 h = 0 ∨ (S 137 h = 1 ∧ S 136 h = 2)) ∧ (vp_in (S 131 h) 4) ∧ (S 139 h = 0 → S 132 h = -1) ∧ (¬ S 139 h = 0 → vp_in (S 132 h) 4) ∧ (S 136 h = 1 → vp_in (S 141 h) nh ∧ S 137 (xc (S 141 h)) = 0 ∧ S 131 (xc (S 141 h)) = S 131 h) ∧ (S 138 h = 0 ∨ S 138 h = 1) ∧ (S 139 h = 0 ∨ S 139 h = 1) ∧ (1 ≤ S 133 h ∧ S 133 h ≤ S 134 h ∧ S 134 h ≤ 250) ∧ (vp_in (S 143 h) 101 ∧ vp_in (S 144 h) 101)
def iv_s (ns : Nat) (S : xa_AH) : Prop := ∀ s, s < ns → (S 151 s = 0 ∨ S 151 s = 1 ∨ S 151 s = 2) ∧ (¬ S 137 (xc (S 146 s)) = 0 → S 151 s = 0) ∧ (1 ≤ S 148 s ∧ S 148 s ≤ 250) ∧ (vp_in (S 152 s) 4) ∧ (vp_in (S 150 s) 201) ∧ (S 155 s = 0 ∨ S 155 s = 1) ∧ (S 156 s = 0 ∨ S 156 s = 1) ∧ (vp_in (S 147 s) 16) ∧ (S 156 s = 0 → S 133 (xc (S 146 s)) ≤ S 148 s ∧ S 148 s ≤ S 134 (xc (S 146 s)))
def iv_r (nh ns : Nat) (S : xa_AH) : Prop := ∀ h, h < nh → ∀ s, s < 32 → (¬ S 158 (32 * h + s) = 0 → s < ns ∧ S 158 (32 * h + s) = 1 ∧ 1 ≤ S 159 (32 * h + s) ∧ S 159 (32 * h + s) ≤ 250) ∧ (vp_in (S 162 (32 * h + s)) 30300) ∧ (¬ S 163 (32 * h + s) = -1 → s < ns ∧ vp_in (S 163 (32 * h + s)) 30300) ∧ (∀ x, x < 32 → ¬ S 158 (32 * h + s) = 0 → ¬ S 158 (32 * h + x) = 0 → S 159 (32 * h + s) = S 159 (32 * h + x) → s = x)
def iv_0 (nh ns : Nat) (S : xa_AH) : Prop := (∀ h, nh ≤ h → h < 12 → S 137 h = 0 ∧ S 138 h = 0 ∧ S 139 h = 0 ∧ S 142 h = 0 ∧ S 143 h = 0 ∧ S 144 h = 0) ∧ (∀ h, nh ≤ h → h < 12 → ∀ s, s < 32 → S 158 (32 * h + s) = 0 ∧ S 159 (32 * h + s) = 0 ∧ S 160 (32 * h + s) = 0 ∧ S 161 (32 * h + s) = 0 ∧ S 162 (32 * h + s) = 0 ∧ S 163 (32 * h + s) = -1) ∧ (∀ h, nh ≤ h → h < 12 → ∀ k, k < 16 → S 164 (16 * h + k) = 0 ∧ S 165 (16 * h + k) = 0 ∧ S 166 (16 * h + k) = 0) ∧ (∀ h, nh ≤ h → h < 12 → rowc S (24 + 2 * h) ∧ rowc S (24 + 2 * h + 1)) ∧ (∀ s, ns ≤ s → s < 32 → S 154 s = 0 ∧ S 155 s = 0 ∧ S 156 s = 0)
def iv_e (nh : Nat) (S : xa_AH) : Prop := ∀ h, h < nh → ∀ s, s < 32 → (¬ S 158 (32 * h + s) = 0 → (S 162 (32 * h + s)).toInt ≤ (S 130 36).toInt + 201)
def rx_k (k nh : Nat) (pw : Nat → Nat) : Prop := (k ≤ nh) ∧ (pw 0 = 0)
def iv_g (S : xa_AH) : Prop := (vp_in (S 130 36) 30001)
def RX (nh ns k : Nat) (pw : Nat → Nat) (L : List Nat) (T : xa_AH) (R : xa_AR) (S : xa_AH) : Prop := rx_c nh ns L R ∧ rx_l nh L R S ∧ rx_g nh ns T S ∧ rx_h nh T R S ∧ rx_s ns T R S ∧ rx_r nh T S ∧ rx_a nh T S ∧ rx_b nh T ∧ rx_w nh T R S ∧ rx_p k pw T R S ∧ xm_wf nh ns S ∧ iv_h nh S ∧ iv_s ns S ∧ iv_r nh ns S ∧ iv_0 nh ns S ∧ iv_g S ∧ rx_k k nh pw ∧ iv_e nh S
section RXA
variable {nh ns k : Nat} {pw : Nat → Nat} {L : List Nat} {T : xa_AH} {R : xa_AR} {S : xa_AH} (hX : RX nh ns k pw L T R S)
theorem RX.rx_c (hX : RX nh ns k pw L T R S) : rx_c nh ns L R := hX.1
theorem RX.rx_l (hX : RX nh ns k pw L T R S) : rx_l nh L R S := hX.2.1
theorem RX.rx_g (hX : RX nh ns k pw L T R S) : rx_g nh ns T S := hX.2.2.1
theorem RX.rx_h (hX : RX nh ns k pw L T R S) : rx_h nh T R S := hX.2.2.2.1
theorem RX.rx_s (hX : RX nh ns k pw L T R S) : rx_s ns T R S := hX.2.2.2.2.1
theorem RX.rx_r (hX : RX nh ns k pw L T R S) : rx_r nh T S := hX.2.2.2.2.2.1
theorem RX.rx_a (hX : RX nh ns k pw L T R S) : rx_a nh T S := hX.2.2.2.2.2.2.1
theorem RX.rx_b (hX : RX nh ns k pw L T R S) : rx_b nh T := hX.2.2.2.2.2.2.2.1
theorem RX.rx_w (hX : RX nh ns k pw L T R S) : rx_w nh T R S := hX.2.2.2.2.2.2.2.2.1
theorem RX.rx_p (hX : RX nh ns k pw L T R S) : rx_p k pw T R S := hX.2.2.2.2.2.2.2.2.2.1
theorem RX.xm_wf (hX : RX nh ns k pw L T R S) : xm_wf nh ns S := hX.2.2.2.2.2.2.2.2.2.2.1
theorem RX.iv_h (hX : RX nh ns k pw L T R S) : iv_h nh S := hX.2.2.2.2.2.2.2.2.2.2.2.1
theorem RX.iv_s (hX : RX nh ns k pw L T R S) : iv_s ns S := hX.2.2.2.2.2.2.2.2.2.2.2.2.1
theorem RX.iv_r (hX : RX nh ns k pw L T R S) : iv_r nh ns S := hX.2.2.2.2.2.2.2.2.2.2.2.2.2.1
theorem RX.iv_0 (hX : RX nh ns k pw L T R S) : iv_0 nh ns S := hX.2.2.2.2.2.2.2.2.2.2.2.2.2.2.1
theorem RX.iv_g (hX : RX nh ns k pw L T R S) : iv_g S := hX.2.2.2.2.2.2.2.2.2.2.2.2.2.2.2.1
theorem RX.rx_k (hX : RX nh ns k pw L T R S) : rx_k k nh pw := hX.2.2.2.2.2.2.2.2.2.2.2.2.2.2.2.2.1
theorem RX.iv_e (hX : RX nh ns k pw L T R S) : iv_e nh S := hX.2.2.2.2.2.2.2.2.2.2.2.2.2.2.2.2.2
theorem RX.c_m129 (hX : RX nh ns k pw L T R S) : ci 0 129 ∈ L := (hX.rx_c).1
theorem RX.c_m126 (hX : RX nh ns k pw L T R S) : ci 0 126 ∈ L := (hX.rx_c).2.1
theorem RX.c_m127 (hX : RX nh ns k pw L T R S) : ci 0 127 ∈ L := (hX.rx_c).2.2.1
theorem RX.c_r0 (hX : RX nh ns k pw L T R S) : R (ci 0 129) 0 = some (ci 0 126) := (hX.rx_c).2.2.2.1
theorem RX.c_r1 (hX : RX nh ns k pw L T R S) : R (ci 0 129) 1 = some (ci 0 127) := (hX.rx_c).2.2.2.2.1
theorem RX.c_hh (hX : RX nh ns k pw L T R S) : ∀ h, h < nh → cs_h L R h ∧ R (ci 0 126) h = some (ci h 0) := (hX.rx_c).2.2.2.2.2.1
theorem RX.c_ss (hX : RX nh ns k pw L T R S) : ∀ s, s < ns → ci s 128 ∈ L ∧ R (ci 0 127) s = some (ci s 128) := (hX.rx_c).2.2.2.2.2.2.1
theorem RX.c_cl (hX : RX nh ns k pw L T R S) : ∀ a k b, R a k = some b → b ∈ L := (hX.rx_c).2.2.2.2.2.2.2.1
theorem RX.c_nh (hX : RX nh ns k pw L T R S) : ∀ h r, nh ≤ h → r < 126 → ¬ ci h r ∈ L := (hX.rx_c).2.2.2.2.2.2.2.2.1
theorem RX.c_ns (hX : RX nh ns k pw L T R S) : ∀ s, ns ≤ s → ¬ ci s 128 ∈ L := (hX.rx_c).2.2.2.2.2.2.2.2.2.1
theorem RX.c_ok (hX : RX nh ns k pw L T R S) : ∀ a, a ∈ L → a % 256 < 130 := (hX.rx_c).2.2.2.2.2.2.2.2.2.2
theorem RX.l_rl (hX : RX nh ns k pw L T R S) {h : Nat} (hh : h < nh) : R (ci h 0) 15 = some (lt R h) := (hX.rx_l h hh).1
theorem RX.l_cl (hX : RX nh ns k pw L T R S) {h : Nat} (hh : h < nh) : cs_l L R (lt R h) := (hX.rx_l h hh).2.1
theorem RX.l_l0 (hX : RX nh ns k pw L T R S) {h : Nat} (hh : h < nh) : lt R h = ci h 16 ∨ lt R h = ci h 48 := (hX.rx_l h hh).2.2.1
theorem RX.l_l1 (hX : RX nh ns k pw L T R S) {h : Nat} (hh : h < nh) : S 139 h = 0 → lt R h = ci h 16 := (hX.rx_l h hh).2.2.2.1
theorem RX.l_br (hX : RX nh ns k pw L T R S) {h : Nat} (hh : h < nh) : ¬ S 139 h = 0 → ci h 80 ∈ L ∧ R (ci h 80) 2 = some (l2 R h) ∧ R (ci h 80) 3 = some (wh R h) ∧ R (ci h 80) 4 = some (w2 R h) ∧ cs_l L R (l2 R h) ∧ cs_l L R (wh R h) ∧ cs_l L R (w2 R h) ∧ ((lt R h = ci h 16 ∧ wh R h = ci h 48) ∨ (lt R h = ci h 48 ∧ wh R h = ci h 16)) ∧ ((l2 R h = ci h 32 ∧ w2 R h = ci h 64) ∨ (l2 R h = ci h 64 ∧ w2 R h = ci h 32)) := (hX.rx_l h hh).2.2.2.2.1
theorem RX.l_nb (hX : RX nh ns k pw L T R S) {h : Nat} (hh : h < nh) : S 139 h = 0 → ∀ r, 32 ≤ r → r < 126 → ¬ ci h r ∈ L := (hX.rx_l h hh).2.2.2.2.2
theorem RX.g_nh (hX : RX nh ns k pw L T R S) : T (ci 0 129) 2 = nI nh := (hX.rx_g).1
theorem RX.g_ns (hX : RX nh ns k pw L T R S) : T (ci 0 129) 3 = nI ns := (hX.rx_g).2.1
theorem RX.g_now (hX : RX nh ns k pw L T R S) : T (ci 0 129) 4 = S 130 36 := (hX.rx_g).2.2.1
theorem RX.g_letters (hX : RX nh ns k pw L T R S) : T (ci 0 129) 5 = S 130 37 := (hX.rx_g).2.2.2.1
theorem RX.g_lately (hX : RX nh ns k pw L T R S) : T (ci 0 129) 6 = S 130 43 := (hX.rx_g).2.2.2.2.1
theorem RX.g_lost (hX : RX nh ns k pw L T R S) : T (ci 0 129) 7 = S 130 38 := (hX.rx_g).2.2.2.2.2.1
theorem RX.g_yields (hX : RX nh ns k pw L T R S) : T (ci 0 129) 8 = S 130 39 := (hX.rx_g).2.2.2.2.2.2.1
theorem RX.g_lies (hX : RX nh ns k pw L T R S) : T (ci 0 129) 9 = S 130 40 := (hX.rx_g).2.2.2.2.2.2.2.1
theorem RX.g_leftOut (hX : RX nh ns k pw L T R S) : T (ci 0 129) 10 = S 130 41 := (hX.rx_g).2.2.2.2.2.2.2.2.1
theorem RX.g_woken (hX : RX nh ns k pw L T R S) : T (ci 0 129) 11 = S 130 42 := (hX.rx_g).2.2.2.2.2.2.2.2.2.1
theorem RX.g_takenUp (hX : RX nh ns k pw L T R S) : T (ci 0 129) 12 = S 130 44 := (hX.rx_g).2.2.2.2.2.2.2.2.2.2
theorem RX.h_number (hX : RX nh ns k pw L T R S) {h : Nat} (hh : h < nh) : T (ci h 0) 0 = nI h := (hX.rx_h h hh).1
theorem RX.h_from (hX : RX nh ns k pw L T R S) {h : Nat} (hh : h < nh) : T (ci h 0) 1 = S 133 h := (hX.rx_h h hh).2.1
theorem RX.h_to (hX : RX nh ns k pw L T R S) {h : Nat} (hh : h < nh) : T (ci h 0) 2 = S 134 h := (hX.rx_h h hh).2.2.1
theorem RX.h_rank (hX : RX nh ns k pw L T R S) {h : Nat} (hh : h < nh) : T (ci h 0) 3 = S 135 h := (hX.rx_h h hh).2.2.2.1
theorem RX.h_net (hX : RX nh ns k pw L T R S) {h : Nat} (hh : h < nh) : T (ci h 0) 7 = S 131 h := (hX.rx_h h hh).2.2.2.2.1
theorem RX.h_state (hX : RX nh ns k pw L T R S) {h : Nat} (hh : h < nh) : T (ci h 0) 8 = xs S h := (hX.rx_h h hh).2.2.2.2.2.1
theorem RX.h_isKeeper (hX : RX nh ns k pw L T R S) {h : Nat} (hh : h < nh) : T (ci h 0) 9 = S 138 h := (hX.rx_h h hh).2.2.2.2.2.2.1
theorem RX.h_toLose (hX : RX nh ns k pw L T R S) {h : Nat} (hh : h < nh) : T (ci h 0) 12 = S 143 h := (hX.rx_h h hh).2.2.2.2.2.2.2.1
theorem RX.h_toMiss (hX : RX nh ns k pw L T R S) {h : Nat} (hh : h < nh) : T (ci h 0) 13 = S 144 h := (hX.rx_h h hh).2.2.2.2.2.2.2.2.1
theorem RX.h_written (hX : RX nh ns k pw L T R S) {h : Nat} (hh : h < nh) : T (ci h 0) 14 = S 142 h := (hX.rx_h h hh).2.2.2.2.2.2.2.2.2.1
theorem RX.h_br0 (hX : RX nh ns k pw L T R S) {h : Nat} (hh : h < nh) : S 139 h = 0 → R (ci h 0) 11 = none := (hX.rx_h h hh).2.2.2.2.2.2.2.2.2.2.1
theorem RX.h_br1 (hX : RX nh ns k pw L T R S) {h : Nat} (hh : h < nh) : ¬ S 139 h = 0 → R (ci h 0) 11 = some (ci h 80) := (hX.rx_h h hh).2.2.2.2.2.2.2.2.2.2.2.1
theorem RX.h_kinds (hX : RX nh ns k pw L T R S) {h : Nat} (hh : h < nh) : ¬ S 139 h = 0 → T (ci h 80) 0 = S 140 h := (hX.rx_h h hh).2.2.2.2.2.2.2.2.2.2.2.2.1
theorem RX.h_bnet (hX : RX nh ns k pw L T R S) {h : Nat} (hh : h < nh) : ¬ S 139 h = 0 → T (ci h 80) 1 = S 132 h := (hX.rx_h h hh).2.2.2.2.2.2.2.2.2.2.2.2.2.1
theorem RX.h_px1 (hX : RX nh ns k pw L T R S) {h : Nat} (hh : h < nh) : S 136 h = 1 → R (ci h 0) 10 = some (ci (xc (S 141 h)) 0) := (hX.rx_h h hh).2.2.2.2.2.2.2.2.2.2.2.2.2.2.1
theorem RX.h_px (hX : RX nh ns k pw L T R S) {h : Nat} (hh : h < nh) : ∀ a, R (ci h 0) 10 = some a → ∃ j, j < nh ∧ a = ci j 0 := (hX.rx_h h hh).2.2.2.2.2.2.2.2.2.2.2.2.2.2.2
theorem RX.s_number (hX : RX nh ns k pw L T R S) {s : Nat} (hs : s < ns) : T (ci s 128) 0 = nI s := (hX.rx_s s hs).1
theorem RX.s_host (hX : RX nh ns k pw L T R S) {s : Nat} (hs : s < ns) : R (ci s 128) 1 = some (ci (xc (S 146 s)) 0) := (hX.rx_s s hs).2.1
theorem RX.s_kind (hX : RX nh ns k pw L T R S) {s : Nat} (hs : s < ns) : T (ci s 128) 2 = S 147 s := (hX.rx_s s hs).2.2.1
theorem RX.s_life (hX : RX nh ns k pw L T R S) {s : Nat} (hs : s < ns) : T (ci s 128) 3 = S 150 s := (hX.rx_s s hs).2.2.2.1
theorem RX.s_isFalse (hX : RX nh ns k pw L T R S) {s : Nat} (hs : s < ns) : T (ci s 128) 4 = S 156 s := (hX.rx_s s hs).2.2.2.2.1
theorem RX.s_name (hX : RX nh ns k pw L T R S) {s : Nat} (hs : s < ns) : T (ci s 128) 5 = S 148 s := (hX.rx_s s hs).2.2.2.2.2.1
theorem RX.s_marks (hX : RX nh ns k pw L T R S) {s : Nat} (hs : s < ns) : T (ci s 128) 6 = S 149 s := (hX.rx_s s hs).2.2.2.2.2.2.1
theorem RX.s_state (hX : RX nh ns k pw L T R S) {s : Nat} (hs : s < ns) : T (ci s 128) 7 = S 151 s := (hX.rx_s s hs).2.2.2.2.2.2.2.1
theorem RX.s_claims (hX : RX nh ns k pw L T R S) {s : Nat} (hs : s < ns) : S 151 s = 1 → T (ci s 128) 8 = S 152 s := (hX.rx_s s hs).2.2.2.2.2.2.2.2.1
theorem RX.s_renewal (hX : RX nh ns k pw L T R S) {s : Nat} (hs : s < ns) : S 151 s = 2 → T (ci s 128) 9 = S 153 s := (hX.rx_s s hs).2.2.2.2.2.2.2.2.2.1
theorem RX.s_hasBye (hX : RX nh ns k pw L T R S) {s : Nat} (hs : s < ns) : T (ci s 128) 10 = S 155 s := (hX.rx_s s hs).2.2.2.2.2.2.2.2.2.2.1
theorem RX.s_yielded (hX : RX nh ns k pw L T R S) {s : Nat} (hs : s < ns) : T (ci s 128) 11 = S 154 s := (hX.rx_s s hs).2.2.2.2.2.2.2.2.2.2.2
theorem RX.r_held (hX : RX nh ns k pw L T R S) {h s : Nat} (hh : h < nh) (hs : s < 32) : bt (T (ci h 1) 4) s = decide (¬ S 158 (32 * h + s) = 0) := (hX.rx_r h hh s hs).1
theorem RX.r_name (hX : RX nh ns k pw L T R S) {h s : Nat} (hh : h < nh) (hs : s < 32) : T (ci h 2) s = S 159 (32 * h + s) := (hX.rx_r h hh s hs).2.1
theorem RX.r_marks (hX : RX nh ns k pw L T R S) {h s : Nat} (hh : h < nh) (hs : s < 32) : T (ci h 3) s = S 160 (32 * h + s) := (hX.rx_r h hh s hs).2.2.1
theorem RX.r_life (hX : RX nh ns k pw L T R S) {h s : Nat} (hh : h < nh) (hs : s < 32) : T (ci h 4) s = S 161 (32 * h + s) := (hX.rx_r h hh s hs).2.2.2.1
theorem RX.r_end (hX : RX nh ns k pw L T R S) {h s : Nat} (hh : h < nh) (hs : s < 32) : T (ci h 5) s = S 162 (32 * h + s) := (hX.rx_r h hh s hs).2.2.2.2.1
theorem RX.r_ans (hX : RX nh ns k pw L T R S) {h s : Nat} (hh : h < nh) (hs : s < 32) : bt (T (ci h 9) 1) s = decide (¬ S 163 (32 * h + s) = -1) := (hX.rx_r h hh s hs).2.2.2.2.2.1
theorem RX.r_due (hX : RX nh ns k pw L T R S) {h s : Nat} (hh : h < nh) (hs : s < 32) : ¬ S 163 (32 * h + s) = -1 → T (ci h 10) s = S 163 (32 * h + s) := (hX.rx_r h hh s hs).2.2.2.2.2.2
theorem RX.a_has (hX : RX nh ns k pw L T R S) {h k1 : Nat} (hh : h < nh) (hk : k1 < 16) : bt (T (ci h 6) 2) k1 = decide (¬ S 164 (16 * h + k1) = 0) := (hX.rx_a h hh k1 hk).1
theorem RX.a_marks (hX : RX nh ns k pw L T R S) {h k1 : Nat} (hh : h < nh) (hk : k1 < 16) : T (ci h 7) k1 = S 165 (16 * h + k1) := (hX.rx_a h hh k1 hk).2.1
theorem RX.a_due (hX : RX nh ns k pw L T R S) {h k1 : Nat} (hh : h < nh) (hk : k1 < 16) : T (ci h 8) k1 = S 166 (16 * h + k1) := (hX.rx_a h hh k1 hk).2.2
theorem RX.b_big (hX : RX nh ns k pw L T R S) : ∀ h, h < nh → ∀ k, 16 ≤ k → bt (T (ci h 6) 2) k = false := (hX.rx_b)
theorem RX.w_c (hX : RX nh ns k pw L T R S) {h : Nat} (hh : h < nh) : S 139 h = 0 → rowc S (24 + 2 * h) ∧ rowc S (24 + 2 * h + 1) := (hX.rx_w h hh).1
theorem RX.w_w (hX : RX nh ns k pw L T R S) {h : Nat} (hh : h < nh) : ¬ S 139 h = 0 → ¬ S 136 h = 0 → lr T (wh R h) S (24 + 2 * h) 0 ∧ lr T (w2 R h) S (24 + 2 * h + 1) 0 := (hX.rx_w h hh).2
theorem RX.p_s (hX : RX nh ns k pw L T R S) {i : Nat} (hi : i < k) : pw (i + 1) = pw i + (if lne T (lt R i) = true then 1 else 0) + (if ¬ S 139 i = 0 ∧ lne T (l2 R i) = true then 1 else 0) := (hX.rx_p i hi).1
theorem RX.p_nl (hX : RX nh ns k pw L T R S) {i : Nat} (hi : i < k) : S 137 i = 0 := (hX.rx_p i hi).2.1
theorem RX.p_a (hX : RX nh ns k pw L T R S) {i : Nat} (hi : i < k) : lne T (lt R i) = true → lrow T S i (lt R i) (pw i) := (hX.rx_p i hi).2.2.1
theorem RX.p_b (hX : RX nh ns k pw L T R S) {i : Nat} (hi : i < k) : ¬ S 139 i = 0 → lne T (l2 R i) = true → lrow T S i (l2 R i) (pw i + (if lne T (lt R i) = true then 1 else 0)) := (hX.rx_p i hi).2.2.2
theorem RX.ih_how (hX : RX nh ns k pw L T R S) {h : Nat} (hh : h < nh) : S 136 h = 0 ∨ S 136 h = 1 ∨ S 136 h = 2 := (hX.iv_h h hh).1
theorem RX.ih_lv (hX : RX nh ns k pw L T R S) {h : Nat} (hh : h < nh) : S 137 h = 0 ∨ (S 137 h = 1 ∧ S 136 h = 2) := (hX.iv_h h hh).2.1
theorem RX.ih_net (hX : RX nh ns k pw L T R S) {h : Nat} (hh : h < nh) : vp_in (S 131 h) 4 := (hX.iv_h h hh).2.2.1
theorem RX.ih_s0 (hX : RX nh ns k pw L T R S) {h : Nat} (hh : h < nh) : S 139 h = 0 → S 132 h = -1 := (hX.iv_h h hh).2.2.2.1
theorem RX.ih_s1 (hX : RX nh ns k pw L T R S) {h : Nat} (hh : h < nh) : ¬ S 139 h = 0 → vp_in (S 132 h) 4 := (hX.iv_h h hh).2.2.2.2.1
theorem RX.ih_px (hX : RX nh ns k pw L T R S) {h : Nat} (hh : h < nh) : S 136 h = 1 → vp_in (S 141 h) nh ∧ S 137 (xc (S 141 h)) = 0 ∧ S 131 (xc (S 141 h)) = S 131 h := (hX.iv_h h hh).2.2.2.2.2.1
theorem RX.ih_kp (hX : RX nh ns k pw L T R S) {h : Nat} (hh : h < nh) : S 138 h = 0 ∨ S 138 h = 1 := (hX.iv_h h hh).2.2.2.2.2.2.1
theorem RX.ih_bg (hX : RX nh ns k pw L T R S) {h : Nat} (hh : h < nh) : S 139 h = 0 ∨ S 139 h = 1 := (hX.iv_h h hh).2.2.2.2.2.2.2.1
theorem RX.ih_nm (hX : RX nh ns k pw L T R S) {h : Nat} (hh : h < nh) : 1 ≤ S 133 h ∧ S 133 h ≤ S 134 h ∧ S 134 h ≤ 250 := (hX.iv_h h hh).2.2.2.2.2.2.2.2.1
theorem RX.ih_lo (hX : RX nh ns k pw L T R S) {h : Nat} (hh : h < nh) : vp_in (S 143 h) 101 ∧ vp_in (S 144 h) 101 := (hX.iv_h h hh).2.2.2.2.2.2.2.2.2
theorem RX.is_is (hX : RX nh ns k pw L T R S) {s : Nat} (hs : s < ns) : S 151 s = 0 ∨ S 151 s = 1 ∨ S 151 s = 2 := (hX.iv_s s hs).1
theorem RX.is_lv (hX : RX nh ns k pw L T R S) {s : Nat} (hs : s < ns) : ¬ S 137 (xc (S 146 s)) = 0 → S 151 s = 0 := (hX.iv_s s hs).2.1
theorem RX.is_nm (hX : RX nh ns k pw L T R S) {s : Nat} (hs : s < ns) : 1 ≤ S 148 s ∧ S 148 s ≤ 250 := (hX.iv_s s hs).2.2.1
theorem RX.is_cl (hX : RX nh ns k pw L T R S) {s : Nat} (hs : s < ns) : vp_in (S 152 s) 4 := (hX.iv_s s hs).2.2.2.1
theorem RX.is_li (hX : RX nh ns k pw L T R S) {s : Nat} (hs : s < ns) : vp_in (S 150 s) 201 := (hX.iv_s s hs).2.2.2.2.1
theorem RX.is_by (hX : RX nh ns k pw L T R S) {s : Nat} (hs : s < ns) : S 155 s = 0 ∨ S 155 s = 1 := (hX.iv_s s hs).2.2.2.2.2.1
theorem RX.is_fa (hX : RX nh ns k pw L T R S) {s : Nat} (hs : s < ns) : S 156 s = 0 ∨ S 156 s = 1 := (hX.iv_s s hs).2.2.2.2.2.2.1
theorem RX.is_kd (hX : RX nh ns k pw L T R S) {s : Nat} (hs : s < ns) : vp_in (S 147 s) 16 := (hX.iv_s s hs).2.2.2.2.2.2.2.1
theorem RX.is_ow (hX : RX nh ns k pw L T R S) {s : Nat} (hs : s < ns) : S 156 s = 0 → S 133 (xc (S 146 s)) ≤ S 148 s ∧ S 148 s ≤ S 134 (xc (S 146 s)) := (hX.iv_s s hs).2.2.2.2.2.2.2.2
theorem RX.ir_lt (hX : RX nh ns k pw L T R S) {h s : Nat} (hh : h < nh) (hs : s < 32) : ¬ S 158 (32 * h + s) = 0 → s < ns ∧ S 158 (32 * h + s) = 1 ∧ 1 ≤ S 159 (32 * h + s) ∧ S 159 (32 * h + s) ≤ 250 := (hX.iv_r h hh s hs).1
theorem RX.ir_end (hX : RX nh ns k pw L T R S) {h s : Nat} (hh : h < nh) (hs : s < 32) : vp_in (S 162 (32 * h + s)) 30300 := (hX.iv_r h hh s hs).2.1
theorem RX.ir_ans (hX : RX nh ns k pw L T R S) {h s : Nat} (hh : h < nh) (hs : s < 32) : ¬ S 163 (32 * h + s) = -1 → s < ns ∧ vp_in (S 163 (32 * h + s)) 30300 := (hX.iv_r h hh s hs).2.2.1
theorem RX.ir_ap (hX : RX nh ns k pw L T R S) {h s : Nat} (hh : h < nh) (hs : s < 32) : ∀ x, x < 32 → ¬ S 158 (32 * h + s) = 0 → ¬ S 158 (32 * h + x) = 0 → S 159 (32 * h + s) = S 159 (32 * h + x) → s = x := (hX.iv_r h hh s hs).2.2.2
theorem RX.i0_h (hX : RX nh ns k pw L T R S) : ∀ h, nh ≤ h → h < 12 → S 137 h = 0 ∧ S 138 h = 0 ∧ S 139 h = 0 ∧ S 142 h = 0 ∧ S 143 h = 0 ∧ S 144 h = 0 := (hX.iv_0).1
theorem RX.i0_r (hX : RX nh ns k pw L T R S) : ∀ h, nh ≤ h → h < 12 → ∀ s, s < 32 → S 158 (32 * h + s) = 0 ∧ S 159 (32 * h + s) = 0 ∧ S 160 (32 * h + s) = 0 ∧ S 161 (32 * h + s) = 0 ∧ S 162 (32 * h + s) = 0 ∧ S 163 (32 * h + s) = -1 := (hX.iv_0).2.1
theorem RX.i0_a (hX : RX nh ns k pw L T R S) : ∀ h, nh ≤ h → h < 12 → ∀ k, k < 16 → S 164 (16 * h + k) = 0 ∧ S 165 (16 * h + k) = 0 ∧ S 166 (16 * h + k) = 0 := (hX.iv_0).2.2.1
theorem RX.i0_w (hX : RX nh ns k pw L T R S) : ∀ h, nh ≤ h → h < 12 → rowc S (24 + 2 * h) ∧ rowc S (24 + 2 * h + 1) := (hX.iv_0).2.2.2.1
theorem RX.i0_s (hX : RX nh ns k pw L T R S) : ∀ s, ns ≤ s → s < 32 → S 154 s = 0 ∧ S 155 s = 0 ∧ S 156 s = 0 := (hX.iv_0).2.2.2.2
theorem RX.ie_le (hX : RX nh ns k pw L T R S) {h s : Nat} (hh : h < nh) (hs : s < 32) : ¬ S 158 (32 * h + s) = 0 → (S 162 (32 * h + s)).toInt ≤ (S 130 36).toInt + 201 := (hX.iv_e h hh s hs)
theorem RX.k_le (hX : RX nh ns k pw L T R S) : k ≤ nh := (hX.rx_k).1
theorem RX.k_p0 (hX : RX nh ns k pw L T R S) : pw 0 = 0 := (hX.rx_k).2
theorem RX.ig_t (hX : RX nh ns k pw L T R S) : vp_in (S 130 36) 30001 := (hX.iv_g)
theorem RX.hS (hX : RX nh ns k pw L T R S) {h : Nat} (hh : h < nh) : cs_h L R h := (hX.c_hh h hh).1
theorem RX.hA (hX : RX nh ns k pw L T R S) {h : Nat} (hh : h < nh) : R (ci 0 126) h = some (ci h 0) := (hX.c_hh h hh).2
theorem RX.sM (hX : RX nh ns k pw L T R S) {s : Nat} (hs : s < ns) : ci s 128 ∈ L := (hX.c_ss s hs).1
theorem RX.sA (hX : RX nh ns k pw L T R S) {s : Nat} (hs : s < ns) : R (ci 0 127) s = some (ci s 128) := (hX.c_ss s hs).2
theorem RX.hO (hX : RX nh ns k pw L T R S) {s : Nat} (hs : s < ns) : xc (S 146 s) < nh := xa_in_lt (hX.xm_wf.2.2.2.2 s hs)
theorem RX.hE (hX : RX nh ns k pw L T R S) {s : Nat} (hs : s < ns) : S 146 s = nI (xc (S 146 s)) := xa_in_eq (hX.xm_wf.2.2.2.2 s hs)
theorem RX.n12 (hX : RX nh ns k pw L T R S) : nh ≤ 12 := hX.xm_wf.1
theorem RX.n32 (hX : RX nh ns k pw L T R S) : ns ≤ 32 := hX.xm_wf.2.1
theorem RX.nm (hX : RX nh ns k pw L T R S) : xm_nm nh S := fun h hh => by
  have h1 := hX.ih_nm hh
  simp only [fa_le] at h1
  have e1 : (1 : Int32).toInt = 1 := rfl
  have e2 : (250 : Int32).toInt = 250 := rfl
  rw [e1, e2] at h1
  constructor <;> rw [vp_in_iff] <;> constructor <;> omega
end RXA
theorem up_o {h : xa_AH} {a k x : Nat} {v : Int32} (n : x ≠ a) : xa_up h a k v x = h x := by funext y; simp [xa_up, n]
theorem up_s {h : xa_AH} {a k : Nat} {v : Int32} : xa_up h a k v a k = v := by simp [xa_up]
theorem up_k {h : xa_AH} {a k x y : Nat} {v : Int32} (n : y ≠ k) : xa_up h a k v x y = h x y := by simp [xa_up, n]
theorem ci_ne {h i r q : Nat} (hr : r < 256) (hq : q < 256) (n : r ≠ q) : ci h r ≠ ci i q := fun e => n ((ci_inj hr hq).mp e).2
/-- a cell of a letter -/
def lcell (a : Nat) : Prop := 16 ≤ a % 256 ∧ a % 256 < 80
theorem ci_nl {h r a : Nat} (hr : r < 256) (n : r < 16 ∨ 80 ≤ r) (ha : lcell a) : ci h r ≠ a := fun e => by
  subst e
  unfold lcell ci at ha
  rw [Nat.mul_add_mod, Nat.mod_eq_of_lt hr] at ha
  omega
theorem rx_g_T {nh ns : Nat} {T S : xa_AH} {i r j : Nat} {v : Int32} (hr : r < 256) (hn : r ≠ 129) : rx_g nh ns (xa_up T (ci i r) j v) S = rx_g nh ns T S := by
  have n129 : ∀ h, xa_up T (ci i r) j v (ci h 129) = T (ci h 129) := fun h => up_o (ci_ne (by decide) hr (by omega))
  simp only [rx_g, n129]
theorem rx_g_L {nh ns : Nat} {T S : xa_AH} {a j : Nat} {v : Int32} (ha : lcell a) : rx_g nh ns (xa_up T a j v) S = rx_g nh ns T S := by
  have n129 : ∀ h, xa_up T a j v (ci h 129) = T (ci h 129) := fun h => up_o (ci_nl (by decide) (by decide) ha)
  simp only [rx_g, n129]
theorem rx_h_T {nh : Nat} {T : xa_AH} {R : xa_AR} {S : xa_AH} {i r j : Nat} {v : Int32} (hr : r < 256) (hn : r ≠ 0 ∧ r ≠ 80) : rx_h nh (xa_up T (ci i r) j v) R S = rx_h nh T R S := by
  have n0 : ∀ h, xa_up T (ci i r) j v (ci h 0) = T (ci h 0) := fun h => up_o (ci_ne (by decide) hr (by omega))
  have n80 : ∀ h, xa_up T (ci i r) j v (ci h 80) = T (ci h 80) := fun h => up_o (ci_ne (by decide) hr (by omega))
  simp only [rx_h, n0, n80]
theorem rx_h_L {nh : Nat} {T : xa_AH} {R : xa_AR} {S : xa_AH} {a j : Nat} {v : Int32} (ha : lcell a) : rx_h nh (xa_up T a j v) R S = rx_h nh T R S := by
  have n0 : ∀ h, xa_up T a j v (ci h 0) = T (ci h 0) := fun h => up_o (ci_nl (by decide) (by decide) ha)
  have n80 : ∀ h, xa_up T a j v (ci h 80) = T (ci h 80) := fun h => up_o (ci_nl (by decide) (by decide) ha)
  simp only [rx_h, n0, n80]
theorem rx_s_T {ns : Nat} {T : xa_AH} {R : xa_AR} {S : xa_AH} {i r j : Nat} {v : Int32} (hr : r < 256) (hn : r ≠ 128) : rx_s ns (xa_up T (ci i r) j v) R S = rx_s ns T R S := by
  have n128 : ∀ h, xa_up T (ci i r) j v (ci h 128) = T (ci h 128) := fun h => up_o (ci_ne (by decide) hr (by omega))
  simp only [rx_s, n128]
theorem rx_s_L {ns : Nat} {T : xa_AH} {R : xa_AR} {S : xa_AH} {a j : Nat} {v : Int32} (ha : lcell a) : rx_s ns (xa_up T a j v) R S = rx_s ns T R S := by
  have n128 : ∀ h, xa_up T a j v (ci h 128) = T (ci h 128) := fun h => up_o (ci_nl (by decide) (by decide) ha)
  simp only [rx_s, n128]
theorem rx_r_T {nh : Nat} {T S : xa_AH} {i r j : Nat} {v : Int32} (hr : r < 256) (hn : r ≠ 1 ∧ r ≠ 2 ∧ r ≠ 3 ∧ r ≠ 4 ∧ r ≠ 5 ∧ r ≠ 9 ∧ r ≠ 10) : rx_r nh (xa_up T (ci i r) j v) S = rx_r nh T S := by
  have n1 : ∀ h, xa_up T (ci i r) j v (ci h 1) = T (ci h 1) := fun h => up_o (ci_ne (by decide) hr (by omega))
  have n2 : ∀ h, xa_up T (ci i r) j v (ci h 2) = T (ci h 2) := fun h => up_o (ci_ne (by decide) hr (by omega))
  have n3 : ∀ h, xa_up T (ci i r) j v (ci h 3) = T (ci h 3) := fun h => up_o (ci_ne (by decide) hr (by omega))
  have n4 : ∀ h, xa_up T (ci i r) j v (ci h 4) = T (ci h 4) := fun h => up_o (ci_ne (by decide) hr (by omega))
  have n5 : ∀ h, xa_up T (ci i r) j v (ci h 5) = T (ci h 5) := fun h => up_o (ci_ne (by decide) hr (by omega))
  have n9 : ∀ h, xa_up T (ci i r) j v (ci h 9) = T (ci h 9) := fun h => up_o (ci_ne (by decide) hr (by omega))
  have n10 : ∀ h, xa_up T (ci i r) j v (ci h 10) = T (ci h 10) := fun h => up_o (ci_ne (by decide) hr (by omega))
  simp only [rx_r, n1, n2, n3, n4, n5, n9, n10]
theorem rx_r_L {nh : Nat} {T S : xa_AH} {a j : Nat} {v : Int32} (ha : lcell a) : rx_r nh (xa_up T a j v) S = rx_r nh T S := by
  have n1 : ∀ h, xa_up T a j v (ci h 1) = T (ci h 1) := fun h => up_o (ci_nl (by decide) (by decide) ha)
  have n2 : ∀ h, xa_up T a j v (ci h 2) = T (ci h 2) := fun h => up_o (ci_nl (by decide) (by decide) ha)
  have n3 : ∀ h, xa_up T a j v (ci h 3) = T (ci h 3) := fun h => up_o (ci_nl (by decide) (by decide) ha)
  have n4 : ∀ h, xa_up T a j v (ci h 4) = T (ci h 4) := fun h => up_o (ci_nl (by decide) (by decide) ha)
  have n5 : ∀ h, xa_up T a j v (ci h 5) = T (ci h 5) := fun h => up_o (ci_nl (by decide) (by decide) ha)
  have n9 : ∀ h, xa_up T a j v (ci h 9) = T (ci h 9) := fun h => up_o (ci_nl (by decide) (by decide) ha)
  have n10 : ∀ h, xa_up T a j v (ci h 10) = T (ci h 10) := fun h => up_o (ci_nl (by decide) (by decide) ha)
  simp only [rx_r, n1, n2, n3, n4, n5, n9, n10]
theorem rx_a_T {nh : Nat} {T S : xa_AH} {i r j : Nat} {v : Int32} (hr : r < 256) (hn : r ≠ 6 ∧ r ≠ 7 ∧ r ≠ 8) : rx_a nh (xa_up T (ci i r) j v) S = rx_a nh T S := by
  have n6 : ∀ h, xa_up T (ci i r) j v (ci h 6) = T (ci h 6) := fun h => up_o (ci_ne (by decide) hr (by omega))
  have n7 : ∀ h, xa_up T (ci i r) j v (ci h 7) = T (ci h 7) := fun h => up_o (ci_ne (by decide) hr (by omega))
  have n8 : ∀ h, xa_up T (ci i r) j v (ci h 8) = T (ci h 8) := fun h => up_o (ci_ne (by decide) hr (by omega))
  simp only [rx_a, n6, n7, n8]
theorem rx_a_L {nh : Nat} {T S : xa_AH} {a j : Nat} {v : Int32} (ha : lcell a) : rx_a nh (xa_up T a j v) S = rx_a nh T S := by
  have n6 : ∀ h, xa_up T a j v (ci h 6) = T (ci h 6) := fun h => up_o (ci_nl (by decide) (by decide) ha)
  have n7 : ∀ h, xa_up T a j v (ci h 7) = T (ci h 7) := fun h => up_o (ci_nl (by decide) (by decide) ha)
  have n8 : ∀ h, xa_up T a j v (ci h 8) = T (ci h 8) := fun h => up_o (ci_nl (by decide) (by decide) ha)
  simp only [rx_a, n6, n7, n8]
theorem rx_b_T {nh : Nat} {T : xa_AH} {i r j : Nat} {v : Int32} (hr : r < 256) (hn : r ≠ 6) : rx_b nh (xa_up T (ci i r) j v) = rx_b nh T := by
  have n6 : ∀ h, xa_up T (ci i r) j v (ci h 6) = T (ci h 6) := fun h => up_o (ci_ne (by decide) hr (by omega))
  simp only [rx_b, n6]
theorem rx_b_L {nh : Nat} {T : xa_AH} {a j : Nat} {v : Int32} (ha : lcell a) : rx_b nh (xa_up T a j v) = rx_b nh T := by
  have n6 : ∀ h, xa_up T a j v (ci h 6) = T (ci h 6) := fun h => up_o (ci_nl (by decide) (by decide) ha)
  simp only [rx_b, n6]
theorem rx_l_S {nh : Nat} {L : List Nat} {R : xa_AR} {S : xa_AH} {a j : Nat} {v : Int32} (ha : a ≠ 139) : rx_l nh L R (xa_up S a j v) = rx_l nh L R S := by
  have n139 : xa_up S a j v 139 = S 139 := up_o (by omega)
  simp only [rx_l, n139]
theorem rx_g_S {nh ns : Nat} {T S : xa_AH} {a j : Nat} {v : Int32} (ha : a ≠ 130) : rx_g nh ns T (xa_up S a j v) = rx_g nh ns T S := by
  have n130 : xa_up S a j v 130 = S 130 := up_o (by omega)
  simp only [rx_g, n130]
theorem rx_h_S {nh : Nat} {T : xa_AH} {R : xa_AR} {S : xa_AH} {a j : Nat} {v : Int32} (ha : a < 131 ∨ 144 < a) : rx_h nh T R (xa_up S a j v) = rx_h nh T R S := by
  have n131 : xa_up S a j v 131 = S 131 := up_o (by omega)
  have n132 : xa_up S a j v 132 = S 132 := up_o (by omega)
  have n133 : xa_up S a j v 133 = S 133 := up_o (by omega)
  have n134 : xa_up S a j v 134 = S 134 := up_o (by omega)
  have n135 : xa_up S a j v 135 = S 135 := up_o (by omega)
  have n136 : xa_up S a j v 136 = S 136 := up_o (by omega)
  have n137 : xa_up S a j v 137 = S 137 := up_o (by omega)
  have n138 : xa_up S a j v 138 = S 138 := up_o (by omega)
  have n139 : xa_up S a j v 139 = S 139 := up_o (by omega)
  have n140 : xa_up S a j v 140 = S 140 := up_o (by omega)
  have n141 : xa_up S a j v 141 = S 141 := up_o (by omega)
  have n142 : xa_up S a j v 142 = S 142 := up_o (by omega)
  have n143 : xa_up S a j v 143 = S 143 := up_o (by omega)
  have n144 : xa_up S a j v 144 = S 144 := up_o (by omega)
  simp only [rx_h, xs, n131, n132, n133, n134, n135, n136, n137, n138, n139, n140, n141, n142, n143, n144]
theorem rx_s_S {ns : Nat} {T : xa_AH} {R : xa_AR} {S : xa_AH} {a j : Nat} {v : Int32} (ha : a < 146 ∨ 156 < a) : rx_s ns T R (xa_up S a j v) = rx_s ns T R S := by
  have n146 : xa_up S a j v 146 = S 146 := up_o (by omega)
  have n147 : xa_up S a j v 147 = S 147 := up_o (by omega)
  have n148 : xa_up S a j v 148 = S 148 := up_o (by omega)
  have n149 : xa_up S a j v 149 = S 149 := up_o (by omega)
  have n150 : xa_up S a j v 150 = S 150 := up_o (by omega)
  have n151 : xa_up S a j v 151 = S 151 := up_o (by omega)
  have n152 : xa_up S a j v 152 = S 152 := up_o (by omega)
  have n153 : xa_up S a j v 153 = S 153 := up_o (by omega)
  have n154 : xa_up S a j v 154 = S 154 := up_o (by omega)
  have n155 : xa_up S a j v 155 = S 155 := up_o (by omega)
  have n156 : xa_up S a j v 156 = S 156 := up_o (by omega)
  simp only [rx_s, n146, n147, n148, n149, n150, n151, n152, n153, n154, n155, n156]
theorem rx_r_S {nh : Nat} {T S : xa_AH} {a j : Nat} {v : Int32} (ha : a < 158 ∨ 163 < a) : rx_r nh T (xa_up S a j v) = rx_r nh T S := by
  have n158 : xa_up S a j v 158 = S 158 := up_o (by omega)
  have n159 : xa_up S a j v 159 = S 159 := up_o (by omega)
  have n160 : xa_up S a j v 160 = S 160 := up_o (by omega)
  have n161 : xa_up S a j v 161 = S 161 := up_o (by omega)
  have n162 : xa_up S a j v 162 = S 162 := up_o (by omega)
  have n163 : xa_up S a j v 163 = S 163 := up_o (by omega)
  simp only [rx_r, n158, n159, n160, n161, n162, n163]
theorem rx_a_S {nh : Nat} {T S : xa_AH} {a j : Nat} {v : Int32} (ha : a < 164 ∨ 166 < a) : rx_a nh T (xa_up S a j v) = rx_a nh T S := by
  have n164 : xa_up S a j v 164 = S 164 := up_o (by omega)
  have n165 : xa_up S a j v 165 = S 165 := up_o (by omega)
  have n166 : xa_up S a j v 166 = S 166 := up_o (by omega)
  simp only [rx_a, n164, n165, n166]
theorem rx_w_S {nh : Nat} {T : xa_AH} {R : xa_AR} {S : xa_AH} {a j : Nat} {v : Int32} (ha : a ≠ 136 ∧ a ≠ 139 ∧ a < 179) : rx_w nh T R (xa_up S a j v) = rx_w nh T R S := by
  have n136 : xa_up S a j v 136 = S 136 := up_o (by omega)
  have n139 : xa_up S a j v 139 = S 139 := up_o (by omega)
  have n179 : xa_up S a j v 179 = S 179 := up_o (by omega)
  have n180 : xa_up S a j v 180 = S 180 := up_o (by omega)
  have n181 : xa_up S a j v 181 = S 181 := up_o (by omega)
  have n182 : xa_up S a j v 182 = S 182 := up_o (by omega)
  have n183 : xa_up S a j v 183 = S 183 := up_o (by omega)
  have n184 : xa_up S a j v 184 = S 184 := up_o (by omega)
  have n185 : xa_up S a j v 185 = S 185 := up_o (by omega)
  have n186 : xa_up S a j v 186 = S 186 := up_o (by omega)
  have n187 : xa_up S a j v 187 = S 187 := up_o (by omega)
  have n188 : xa_up S a j v 188 = S 188 := up_o (by omega)
  have n189 : xa_up S a j v 189 = S 189 := up_o (by omega)
  have n190 : xa_up S a j v 190 = S 190 := up_o (by omega)
  simp only [rx_w, rowc, lr, n136, n139, n179, n180, n181, n182, n183, n184, n185, n186, n187, n188, n189, n190]
theorem rx_p_S {k : Nat} {pw : Nat → Nat} {T : xa_AH} {R : xa_AR} {S : xa_AH} {a j : Nat} {v : Int32} (ha : a ≠ 137 ∧ a ≠ 139 ∧ a < 176) : rx_p k pw T R (xa_up S a j v) = rx_p k pw T R S := by
  have n137 : xa_up S a j v 137 = S 137 := up_o (by omega)
  have n139 : xa_up S a j v 139 = S 139 := up_o (by omega)
  have n176 : xa_up S a j v 176 = S 176 := up_o (by omega)
  have n177 : xa_up S a j v 177 = S 177 := up_o (by omega)
  have n179 : xa_up S a j v 179 = S 179 := up_o (by omega)
  have n180 : xa_up S a j v 180 = S 180 := up_o (by omega)
  have n181 : xa_up S a j v 181 = S 181 := up_o (by omega)
  have n182 : xa_up S a j v 182 = S 182 := up_o (by omega)
  have n183 : xa_up S a j v 183 = S 183 := up_o (by omega)
  have n184 : xa_up S a j v 184 = S 184 := up_o (by omega)
  have n185 : xa_up S a j v 185 = S 185 := up_o (by omega)
  have n186 : xa_up S a j v 186 = S 186 := up_o (by omega)
  have n187 : xa_up S a j v 187 = S 187 := up_o (by omega)
  have n188 : xa_up S a j v 188 = S 188 := up_o (by omega)
  have n189 : xa_up S a j v 189 = S 189 := up_o (by omega)
  have n190 : xa_up S a j v 190 = S 190 := up_o (by omega)
  simp only [rx_p, lrow, lr, n137, n139, n176, n177, n179, n180, n181, n182, n183, n184, n185, n186, n187, n188, n189, n190]
theorem iv_h_S {nh : Nat} {S : xa_AH} {a j : Nat} {v : Int32} (ha : a < 131 ∨ 144 < a) : iv_h nh (xa_up S a j v) = iv_h nh S := by
  have n131 : xa_up S a j v 131 = S 131 := up_o (by omega)
  have n132 : xa_up S a j v 132 = S 132 := up_o (by omega)
  have n133 : xa_up S a j v 133 = S 133 := up_o (by omega)
  have n134 : xa_up S a j v 134 = S 134 := up_o (by omega)
  have n135 : xa_up S a j v 135 = S 135 := up_o (by omega)
  have n136 : xa_up S a j v 136 = S 136 := up_o (by omega)
  have n137 : xa_up S a j v 137 = S 137 := up_o (by omega)
  have n138 : xa_up S a j v 138 = S 138 := up_o (by omega)
  have n139 : xa_up S a j v 139 = S 139 := up_o (by omega)
  have n140 : xa_up S a j v 140 = S 140 := up_o (by omega)
  have n141 : xa_up S a j v 141 = S 141 := up_o (by omega)
  have n142 : xa_up S a j v 142 = S 142 := up_o (by omega)
  have n143 : xa_up S a j v 143 = S 143 := up_o (by omega)
  have n144 : xa_up S a j v 144 = S 144 := up_o (by omega)
  simp only [iv_h, n131, n132, n133, n134, n135, n136, n137, n138, n139, n140, n141, n142, n143, n144]
theorem iv_s_S {ns : Nat} {S : xa_AH} {a j : Nat} {v : Int32} (ha : a ≠ 133 ∧ a ≠ 134 ∧ a ≠ 137 ∧ (a < 146 ∨ 156 < a)) : iv_s ns (xa_up S a j v) = iv_s ns S := by
  have n133 : xa_up S a j v 133 = S 133 := up_o (by omega)
  have n134 : xa_up S a j v 134 = S 134 := up_o (by omega)
  have n137 : xa_up S a j v 137 = S 137 := up_o (by omega)
  have n146 : xa_up S a j v 146 = S 146 := up_o (by omega)
  have n147 : xa_up S a j v 147 = S 147 := up_o (by omega)
  have n148 : xa_up S a j v 148 = S 148 := up_o (by omega)
  have n149 : xa_up S a j v 149 = S 149 := up_o (by omega)
  have n150 : xa_up S a j v 150 = S 150 := up_o (by omega)
  have n151 : xa_up S a j v 151 = S 151 := up_o (by omega)
  have n152 : xa_up S a j v 152 = S 152 := up_o (by omega)
  have n153 : xa_up S a j v 153 = S 153 := up_o (by omega)
  have n154 : xa_up S a j v 154 = S 154 := up_o (by omega)
  have n155 : xa_up S a j v 155 = S 155 := up_o (by omega)
  have n156 : xa_up S a j v 156 = S 156 := up_o (by omega)
  simp only [iv_s, n133, n134, n137, n146, n147, n148, n149, n150, n151, n152, n153, n154, n155, n156]
theorem iv_r_S {nh ns : Nat} {S : xa_AH} {a j : Nat} {v : Int32} (ha : a < 158 ∨ 163 < a) : iv_r nh ns (xa_up S a j v) = iv_r nh ns S := by
  have n158 : xa_up S a j v 158 = S 158 := up_o (by omega)
  have n159 : xa_up S a j v 159 = S 159 := up_o (by omega)
  have n160 : xa_up S a j v 160 = S 160 := up_o (by omega)
  have n161 : xa_up S a j v 161 = S 161 := up_o (by omega)
  have n162 : xa_up S a j v 162 = S 162 := up_o (by omega)
  have n163 : xa_up S a j v 163 = S 163 := up_o (by omega)
  simp only [iv_r, n158, n159, n160, n161, n162, n163]
theorem iv_0_S {nh ns : Nat} {S : xa_AH} {a j : Nat} {v : Int32} (ha : a < 137 ∨ (144 < a ∧ a < 154) ∨ a = 157 ∨ (166 < a ∧ a < 179)) : iv_0 nh ns (xa_up S a j v) = iv_0 nh ns S := by
  have n137 : xa_up S a j v 137 = S 137 := up_o (by omega)
  have n138 : xa_up S a j v 138 = S 138 := up_o (by omega)
  have n139 : xa_up S a j v 139 = S 139 := up_o (by omega)
  have n142 : xa_up S a j v 142 = S 142 := up_o (by omega)
  have n143 : xa_up S a j v 143 = S 143 := up_o (by omega)
  have n144 : xa_up S a j v 144 = S 144 := up_o (by omega)
  have n154 : xa_up S a j v 154 = S 154 := up_o (by omega)
  have n155 : xa_up S a j v 155 = S 155 := up_o (by omega)
  have n156 : xa_up S a j v 156 = S 156 := up_o (by omega)
  have n158 : xa_up S a j v 158 = S 158 := up_o (by omega)
  have n159 : xa_up S a j v 159 = S 159 := up_o (by omega)
  have n160 : xa_up S a j v 160 = S 160 := up_o (by omega)
  have n161 : xa_up S a j v 161 = S 161 := up_o (by omega)
  have n162 : xa_up S a j v 162 = S 162 := up_o (by omega)
  have n163 : xa_up S a j v 163 = S 163 := up_o (by omega)
  have n164 : xa_up S a j v 164 = S 164 := up_o (by omega)
  have n165 : xa_up S a j v 165 = S 165 := up_o (by omega)
  have n166 : xa_up S a j v 166 = S 166 := up_o (by omega)
  have n179 : xa_up S a j v 179 = S 179 := up_o (by omega)
  have n183 : xa_up S a j v 183 = S 183 := up_o (by omega)
  have n185 : xa_up S a j v 185 = S 185 := up_o (by omega)
  have n187 : xa_up S a j v 187 = S 187 := up_o (by omega)
  simp only [iv_0, rowc, n137, n138, n139, n142, n143, n144, n154, n155, n156, n158, n159, n160, n161, n162, n163, n164, n165, n166, n179, n183, n185, n187]
theorem iv_g_S {S : xa_AH} {a j : Nat} {v : Int32} (ha : a ≠ 130) : iv_g (xa_up S a j v) = iv_g S := by
  have n130 : xa_up S a j v 130 = S 130 := up_o (by omega)
  simp only [iv_g, n130]
theorem iv_e_S {nh : Nat} {S : xa_AH} {a j : Nat} {v : Int32} (ha : a ≠ 130 ∧ a ≠ 158 ∧ a ≠ 162) : iv_e nh (xa_up S a j v) = iv_e nh S := by
  have n130 : xa_up S a j v 130 = S 130 := up_o (by omega)
  have n158 : xa_up S a j v 158 = S 158 := up_o (by omega)
  have n162 : xa_up S a j v 162 = S 162 := up_o (by omega)
  simp only [iv_e, n130, n158, n162]
theorem lr_T {T : xa_AH} {q : Nat} {S : xa_AH} {r : Nat} {nb : Int32} {a j : Nat} {v : Int32} (ha : a < q ∨ q + 15 < a) : lr (xa_up T a j v) q S r nb = lr T q S r nb := by
  have e0 : xa_up T a j v q = T q := up_o (by omega)
  have e3 : xa_up T a j v (q + 3) = T (q + 3) := up_o (by omega)
  have e4 : xa_up T a j v (q + 4) = T (q + 4) := up_o (by omega)
  have e5 : xa_up T a j v (q + 5) = T (q + 5) := up_o (by omega)
  have e7 : xa_up T a j v (q + 7) = T (q + 7) := up_o (by omega)
  have e8 : xa_up T a j v (q + 8) = T (q + 8) := up_o (by omega)
  have e10 : xa_up T a j v (q + 10) = T (q + 10) := up_o (by omega)
  have e12 : xa_up T a j v (q + 12) = T (q + 12) := up_o (by omega)
  have e13 : xa_up T a j v (q + 13) = T (q + 13) := up_o (by omega)
  have e14 : xa_up T a j v (q + 14) = T (q + 14) := up_o (by omega)
  have e15 : xa_up T a j v (q + 15) = T (q + 15) := up_o (by omega)
  simp only [lr, e0, e3, e4, e5, e7, e8, e10, e12, e13, e14, e15]
theorem lr_S {T : xa_AH} {q : Nat} {S : xa_AH} {r : Nat} {nb : Int32} {a j : Nat} {v : Int32} (ha : a < 179) : lr T q (xa_up S a j v) r nb = lr T q S r nb := by
  have e : ∀ x, 179 ≤ x → xa_up S a j v x = S x := fun x hx => up_o (by omega)
  simp only [lr, e 179 (by decide), e 180 (by decide), e 181 (by decide), e 182 (by decide), e 183 (by decide), e 184 (by decide), e 185 (by decide), e 186 (by decide), e 187 (by decide), e 188 (by decide), e 189 (by decide), e 190 (by decide)]
theorem lne_T {T : xa_AH} {q : Nat} {a j : Nat} {v : Int32} (ha : q ≠ a) : lne (xa_up T a j v) q = lne T q := by
  have e0 : xa_up T a j v q = T q := up_o ha
  have e1 : lx_all (xa_up T a j v) q = lx_all T q := by unfold lx_all; rw [e0]
  unfold lne; rw [e1]
theorem lrow_T {T S : xa_AH} {i q r : Nat} {a j : Nat} {v : Int32} (ha : a < q ∨ q + 15 < a) : lrow (xa_up T a j v) S i q r = lrow T S i q r := by
  have e0 : xa_up T a j v q = T q := up_o (by omega)
  simp only [lrow, lr_T ha, e0]
/-- where the letters of a host lie -/
theorem RX.lt_at {nh ns k : Nat} {pw : Nat → Nat} {L : List Nat} {T : xa_AH} {R : xa_AR} {S : xa_AH} (hX : RX nh ns k pw L T R S) {h : Nat} (hh : h < nh) : lt R h = ci h 16 ∨ lt R h = ci h 48 := hX.l_l0 hh
