/-! ===== Int32 by its bits: bt x i ===== -/
def bt (x : Int32) (i : Nat) : Bool := x.toBitVec.getLsbD i
theorem b_ext {x y : Int32} (h : ∀ i, i < 32 → bt x i = bt y i) : x = y := Int32.toBitVec_inj.mp (BitVec.eq_of_getLsbD_eq (fun i hi => h i hi))
theorem b_or (x y : Int32) (i : Nat) : bt (x ||| y) i = (bt x i || bt y i) := by unfold bt; rw [Int32.toBitVec_or, BitVec.getLsbD_or]
theorem b_and (x y : Int32) (i : Nat) : bt (x &&& y) i = (bt x i && bt y i) := by unfold bt; rw [Int32.toBitVec_and, BitVec.getLsbD_and]
theorem b_xor (x y : Int32) (i : Nat) : bt (x ^^^ y) i = (bt x i ^^ bt y i) := by unfold bt; rw [Int32.toBitVec_xor, BitVec.getLsbD_xor]
theorem b_big {x : Int32} {i : Nat} (h : 32 ≤ i) : bt x i = false := BitVec.getLsbD_of_ge _ _ h
theorem b_255 (i : Nat) : bt 255 i = decide (i < 8) := by
  rcases Nat.lt_or_ge i 32 with h | h
  · exact (by decide +kernel : ∀ i, i < 32 → bt 255 i = decide (i < 8)) i h
  · rw [b_big h, decide_eq_false (by omega)]
theorem b_65535 (i : Nat) : bt 65535 i = decide (i < 16) := by
  rcases Nat.lt_or_ge i 32 with h | h
  · exact (by decide +kernel : ∀ i, i < 32 → bt 65535 i = decide (i < 16)) i h
  · rw [b_big h, decide_eq_false (by omega)]
theorem b_m1 : ∀ i, i < 32 → bt (-1) i = true := by decide +kernel
theorem b_0 (i : Nat) : bt 0 i = false := BitVec.getLsbD_zero
theorem s_l : ∀ n, n < 32 → ((nI n &&& 31).toBitVec.smod 32).toNat = n := by decide +kernel
theorem s_u : ∀ n, n < 32 → (((nI n).toUInt32 &&& Int32.toUInt32 31).toBitVec % 32).toNat = n := by decide +kernel
theorem b_shl (n : Nat) (hn : n < 32) (x : Int32) {i : Nat} (hi : i < 32) : bt (x <<< (nI n &&& 31)) i = (decide (n ≤ i) && bt x (i - n)) := by
  unfold bt
  rw [Int32.toBitVec_shiftLeft]
  show (x.toBitVec <<< ((nI n &&& 31).toBitVec.smod 32).toNat).getLsbD i = _
  rw [s_l n hn, BitVec.getLsbD_shiftLeft]
  rcases Nat.lt_or_ge i n with h | h
  · simp [h, Nat.not_le.mpr h]
  · simp [hi, h, Nat.not_lt.mpr h]
theorem b_ushr (n : Nat) (hn : n < 32) (x : Int32) (i : Nat) : bt ((x.toUInt32 >>> ((nI n).toUInt32 &&& Int32.toUInt32 31)).toInt32) i = bt x (n + i) := by
  show (x.toUInt32 >>> ((nI n).toUInt32 &&& Int32.toUInt32 31)).toBitVec.getLsbD i = x.toUInt32.toBitVec.getLsbD (n + i)
  rw [UInt32.toBitVec_shiftRight]
  show (x.toUInt32.toBitVec >>> (((nI n).toUInt32 &&& Int32.toUInt32 31).toBitVec % 32).toNat).getLsbD i = _
  rw [s_u n hn, BitVec.getLsbD_ushiftRight]
theorem b_sshr (n : Nat) (hn : n < 32) (x : Int32) {i : Nat} (hi : i < 32) : bt (x >>> (nI n &&& 31)) i = if n + i < 32 then bt x (n + i) else bt x 31 := by
  unfold bt
  rw [Int32.toBitVec_shiftRight]
  show (x.toBitVec.sshiftRight ((nI n &&& 31).toBitVec.smod 32).toNat).getLsbD i = _
  rw [s_l n hn, BitVec.getLsbD_sshiftRight, BitVec.msb_eq_getLsbD_last]
  simp [hi]
/-! ===== plain words of the walks ===== -/
def xa_b (b : Bool) : Int32 := if b = true then 1 else 0
theorem xa_b_0 {b : Bool} : xa_b b = 0 ↔ b = false := by cases b <;> decide
theorem xa_b_n0 {b : Bool} : ¬ xa_b b = 0 ↔ b = true := by cases b <;> decide
theorem xa_b_1 {b : Bool} : xa_b b = 1 ↔ b = true := by cases b <;> decide
theorem xa_b_nar (b : Bool) : narrow .boolean (.int (xa_b b)) = .int (xa_b b) := by cases b <;> rfl
theorem xa_b_vp (b : Bool) : vp_nar .boolean (xa_b b) = xa_b b := by cases b <;> rfl
theorem xa_b_fit (b : Bool) : fits .boolean (.int (xa_b b)) = true := by cases b <;> decide
theorem xa_b_t : xa_b true = 1 := rfl
theorem xa_b_f : xa_b false = 0 := rfl
/-- some i below n has p -/
def xa_any (p : Nat → Bool) : Nat → Bool
  | 0 => false
  | n + 1 => xa_any p n || p n
theorem xa_any_iff {p : Nat → Bool} : ∀ {n : Nat}, xa_any p n = true ↔ ∃ i, i < n ∧ p i = true
  | 0 => by simp [xa_any]
  | n + 1 => by
    rw [xa_any, Bool.or_eq_true, xa_any_iff]
    constructor
    · rintro (⟨i, h1, h2⟩ | h)
      · exact ⟨i, by omega, h2⟩
      · exact ⟨n, by omega, h⟩
    · rintro ⟨i, h1, h2⟩
      by_cases hi : i = n
      · exact Or.inr (hi ▸ h2)
      · exact Or.inl ⟨i, by omega, h2⟩
theorem xa_any_no {p : Nat → Bool} {n : Nat} : xa_any p n = false ↔ ∀ i, i < n → p i = false := by
  constructor
  · intro h i hi
    cases hp : p i with
    | false => rfl
    | true => rw [xa_any_iff.mpr ⟨i, hi, hp⟩] at h; cases h
  · intro h
    cases hp : xa_any p n with
    | false => rfl
    | true =>
      obtain ⟨i, h1, h2⟩ := xa_any_iff.mp hp
      rw [h i h1] at h2; cases h2
theorem xa_any_yes {p : Nat → Bool} {n i : Nat} (hi : i < n) (h : p i = true) : xa_any p n = true := xa_any_iff.mpr ⟨i, hi, h⟩
theorem xa_any_cong {p q : Nat → Bool} {n : Nat} (h : ∀ i, i < n → p i = q i) : xa_any p n = xa_any q n := by
  induction n with
  | zero => rfl
  | succ n ih => rw [xa_any, xa_any, ih (fun i hi => h i (by omega)), h n (by omega)]
/-- how many i below n have p -/
def xa_ct (p : Nat → Bool) : Nat → Nat
  | 0 => 0
  | n + 1 => xa_ct p n + if p n = true then 1 else 0
theorem xa_ct_le (p : Nat → Bool) : ∀ n, xa_ct p n ≤ n
  | 0 => Nat.le_refl 0
  | n + 1 => by
    have := xa_ct_le p n
    rw [xa_ct]
    split <;> omega
theorem xa_ct_cong {p q : Nat → Bool} {n : Nat} (h : ∀ i, i < n → p i = q i) : xa_ct p n = xa_ct q n := by
  induction n with
  | zero => rfl
  | succ n ih => rw [xa_ct, xa_ct, ih (fun i hi => h i (by omega)), h n (by omega)]
/-- the first i below n with p, or n -/
def xa_fst (p : Nat → Bool) : Nat → Nat
  | 0 => 0
  | n + 1 => if xa_fst p n < n then xa_fst p n else if p n = true then n else n + 1
/-- steps 0 to n - 1 in their order -/
def xa_lp {α : Type} (f : Nat → α → α) : Nat → α → α
  | 0, S => S
  | n + 1, S => f n (xa_lp f n S)
theorem xa_lp_inv {α : Type} {f : Nat → α → α} {I : α → Prop} {n : Nat} {S : α} (h0 : I S) (hs : ∀ i T, i < n → I T → I (f i T)) : I (xa_lp f n S) := by
  induction n with
  | zero => exact h0
  | succ n ih => exact hs n _ (by omega) (ih (fun i T hi => hs i T (by omega)))
theorem xa_lp_cong {α : Type} {f g : Nat → α → α} {I : α → Prop} {n : Nat} {S : α} (h0 : I S) (hs : ∀ i T, i < n → I T → I (f i T)) (h : ∀ i T, i < n → I T → f i T = g i T) : xa_lp f n S = xa_lp g n S := by
  induction n with
  | zero => rfl
  | succ n ih =>
    rw [xa_lp, xa_lp, ← ih (fun i T hi => hs i T (by omega)) (fun i T hi => h i T (by omega))]
    exact h n _ (by omega) (xa_lp_inv h0 (fun i T hi => hs i T (by omega)))
theorem xa_in_eq {x : Int32} {n : Nat} (h : vp_in x n) : x = nI x.toNatClampNeg := by
  obtain ⟨h1, h2⟩ := vp_in_iff.mp h
  have h3 : x.toInt < 2147483648 := by have := x.toInt_lt; simpa using this
  apply Int32.toInt_inj.mp
  have h4 : x.toNatClampNeg = x.toInt.toNat := rfl
  rw [nI_toInt (by omega), h4]
  omega
theorem xa_in_lt {x : Int32} {n : Nat} (h : vp_in x n) : x.toNatClampNeg < n := Nat.not_le.mp fun q => h (Or.inr q)
theorem xa_in_of {j n : Nat} (h : j < n) (hn : n < 2 ^ 31) : vp_in (nI j) n := vp_in_nI h hn
theorem xa_pm {x y : Int32} {a b : Nat} (hx : x = nI a) (hy : y = nI b) : x * y = nI (a * b) := by rw [hx, hy, pk_mul]
theorem xa_pa {x y : Int32} {a b : Nat} (hx : x = nI a) (hy : y = nI b) : x + y = nI (a + b) := by rw [hx, hy, nI_add]
/-- fewer known locals -/
def xa_le : List (Option Value) → List (Option Value) → Prop
  | [], _ => True
  | none :: a, [] => xa_le a []
  | none :: a, _ :: b => xa_le a b
  | some _ :: _, [] => False
  | some v :: a, w :: b => w = some v ∧ xa_le a b
theorem xa_le_at : ∀ (a b : List (Option Value)), xa_le a b → ∀ (i : Nat) (v : Value), a[i]? = some (some v) → b[i]? = some (some v)
  | [], b, _, i, v, h => by simp at h
  | none :: a, [], hl, 0, v, h => by simp at h
  | none :: a, [], hl, i + 1, v, h => by
    have := xa_le_at a [] hl i v (by simpa using h)
    simp at this
  | none :: a, w :: b, hl, 0, v, h => by simp at h
  | none :: a, w :: b, hl, i + 1, v, h => by
    have := xa_le_at a b hl i v (by simpa using h)
    simpa using this
  | some u :: a, [], hl, i, v, h => hl.elim
  | some u :: a, w :: b, hl, 0, v, h => by
    have h1 := hl.1
    simp at h
    subst h
    simp [h1]
  | some u :: a, w :: b, hl, i + 1, v, h => by
    have := xa_le_at a b hl.2 i v (by simpa using h)
    simpa using this
section XA11
variable {E : xa_EV} {M : xa_MC} {Z : xa_ZC} {kc ks pc : Nat} {ls ls' : List (Option Value)} {st : List Value} {L : List Nat} {hi : xa_AH} {hr : xa_AR}
theorem xa_fg (h : xa_le ls' ls) (k : xa_W E M Z kc ks pc ls' st L hi hr) : xa_W E M Z kc ks pc ls st L hi hr := by
  intro p e s m args below meth c al0 al H locs cells slots lm C hN hP hD hS hl hc hs
  obtain ⟨lv, h1, h2, h3⟩ := hl
  exact k p e s m args below meth c al0 al H locs cells slots lm C hN hP hD hS ⟨lv, h1, h2, fun i v hv => h3 i v (xa_le_at _ _ h i v hv)⟩ hc hs
theorem xa_eqh {hi' : xa_AH} (h : hi = hi') (k : xa_W E M Z kc ks pc ls st L hi' hr) : xa_W E M Z kc ks pc ls st L hi hr := h ▸ k
theorem xa_getA {a idx : Nat} (ci kf b : Nat) (hF : xa_FL M.1.cls idx ci kf) (hd : decode M.2.1 pc = .ok (.getfield idx, 3)) (ha : a ∈ L) (hk : xa_kd a = ci) (hr0 : xa_isR ci kf = true) (ho : hr a kf = some b) (k : xa_W E M Z kc ks (pc + 3) ls (.ref b :: st) L hi hr) : xa_W E M Z kc ks pc ls (.ref a :: st) L hi hr := xa_getR ci kf (some b) hF hd ha hk hr0 ho k
theorem xa_ialdN {a : Nat} {i : Int32} (j : Nat) (hd : decode M.2.1 pc = .ok (.iaload, 1)) (ha : a ∈ L) (hk : xa_kd a = 9) (hij : i = nI j) (hlt : j < xa_ln a) (hsm : xa_ln a < 2 ^ 31) (k : xa_W E M Z kc ks (pc + 1) ls (.int (hi a j) :: st) L hi hr) : xa_W E M Z kc ks pc ls (.int i :: .ref a :: st) L hi hr := by
  subst hij
  refine xa_iald hd ha hk (vp_in_nI hlt hsm) ?_
  rw [nI_clamp (by omega)]; exact k
theorem xa_zaldN {a : Nat} {i : Int32} (j : Nat) (hd : decode M.2.1 pc = .ok (.baload, 1)) (ha : a ∈ L) (hk : xa_kd a = 10) (hij : i = nI j) (hlt : j < xa_ln a) (hsm : xa_ln a < 2 ^ 31) (k : xa_W E M Z kc ks (pc + 1) ls (.int (hi a j) :: st) L hi hr) : xa_W E M Z kc ks pc ls (.int i :: .ref a :: st) L hi hr := by
  subst hij
  refine xa_zald hd ha hk (vp_in_nI hlt hsm) ?_
  rw [nI_clamp (by omega)]; exact k
theorem xa_iastN {a : Nat} {i x : Int32} (j : Nat) (hd : decode M.2.1 pc = .ok (.iastore, 1)) (ha : a ∈ L) (hk : xa_kd a = 9) (hij : i = nI j) (hlt : j < xa_ln a) (hsm : xa_ln a < 2 ^ 31) (k : xa_W E M Z kc ks (pc + 1) ls st L (xa_up hi a j x) hr) : xa_W E M Z kc ks pc ls (.int x :: .int i :: .ref a :: st) L hi hr := by
  subst hij
  refine xa_iast hd ha hk (vp_in_nI hlt hsm) ?_
  rw [nI_clamp (by omega)]; exact k
theorem xa_zastN {a : Nat} {i x : Int32} (j : Nat) (hd : decode M.2.1 pc = .ok (.bastore, 1)) (ha : a ∈ L) (hk : xa_kd a = 10) (hij : i = nI j) (hlt : j < xa_ln a) (hsm : xa_ln a < 2 ^ 31) (hx : vp_nar .boolean x = x) (k : xa_W E M Z kc ks (pc + 1) ls st L (xa_up hi a j x) hr) : xa_W E M Z kc ks pc ls (.int x :: .int i :: .ref a :: st) L hi hr := by
  subst hij
  refine xa_zast hd ha hk (vp_in_nI hlt hsm) hx ?_
  rw [nI_clamp (by omega)]; exact k
theorem xa_icmpN_ge {x y : Int32} {off : Int} (tgt a b : Nat) (hd : decode M.2.1 pc = .ok (.if_icmp .ge off, 3)) (ht : (pc : Int) + off = (tgt : Int)) (hx : x = nI a) (hy : y = nI b) (ha : a < 2 ^ 31) (hb : b < 2 ^ 31) (kt : b ≤ a → xa_W E M Z kc ks tgt ls st L hi hr) (kf : a < b → xa_W E M Z kc ks (pc + 3) ls st L hi hr) : xa_W E M Z kc ks pc ls (.int y :: .int x :: st) L hi hr := by
  subst hx; subst hy
  exact xa_icmp_ge tgt hd ht (fun h => kt ((nI_leI hb ha).mp h)) (fun h => kf (Nat.not_le.mp fun g => h ((nI_leI hb ha).mpr g)))
theorem xa_icmpN_eq {x y : Int32} {off : Int} (tgt a b : Nat) (hd : decode M.2.1 pc = .ok (.if_icmp .eq off, 3)) (ht : (pc : Int) + off = (tgt : Int)) (hx : x = nI a) (hy : y = nI b) (ha : a < 2 ^ 31) (hb : b < 2 ^ 31) (kt : a = b → xa_W E M Z kc ks tgt ls st L hi hr) (kf : a ≠ b → xa_W E M Z kc ks (pc + 3) ls st L hi hr) : xa_W E M Z kc ks pc ls (.int y :: .int x :: st) L hi hr := by
  subst hx; subst hy
  exact xa_icmp_eq tgt hd ht (fun h => kt ((nI_eq ha hb).mp h)) (fun h => kf fun g => h ((nI_eq ha hb).mpr g))
theorem xa_icmpN_ne {x y : Int32} {off : Int} (tgt a b : Nat) (hd : decode M.2.1 pc = .ok (.if_icmp .ne off, 3)) (ht : (pc : Int) + off = (tgt : Int)) (hx : x = nI a) (hy : y = nI b) (ha : a < 2 ^ 31) (hb : b < 2 ^ 31) (kt : a ≠ b → xa_W E M Z kc ks tgt ls st L hi hr) (kf : a = b → xa_W E M Z kc ks (pc + 3) ls st L hi hr) : xa_W E M Z kc ks pc ls (.int y :: .int x :: st) L hi hr := by
  subst hx; subst hy
  exact xa_icmp_ne tgt hd ht (fun h => kt fun g => h ((nI_eq ha hb).mpr g)) (fun h => kf ((nI_eq ha hb).mp h))
end XA11
/-- an answer, and nothing changed -/
def xa_pR (v : Value) (hi : xa_AH) (hr : xa_AR) : Option Value → xa_AH → xa_AR → Prop := fun r h1 h2 => some v = r ∧ hi = h1 ∧ hr = h2
/-- no answer, and this heap -/
def xa_pV (hi : xa_AH) (hr : xa_AR) : Option Value → xa_AH → xa_AR → Prop := fun r h1 h2 => none = r ∧ hi = h1 ∧ hr = h2
