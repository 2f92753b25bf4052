/-! ===== cells that come ===== -/
def cn_t : List (Nat × Nat × Nat) := [(0, 4, 1), (0, 5, 6), (0, 6, 9), (0, 15, 16), (1, 0, 2), (1, 1, 3), (1, 2, 4), (1, 3, 5), (6, 0, 7), (6, 1, 8), (9, 0, 10), (80, 2, 32), (80, 3, 48), (80, 4, 64), (129, 0, 126), (129, 1, 127), (16, 2, 19), (16, 3, 20), (16, 4, 21), (16, 6, 23), (16, 7, 24), (16, 9, 26), (16, 11, 28), (16, 12, 29), (16, 13, 30), (16, 14, 31), (32, 2, 35), (32, 3, 36), (32, 4, 37), (32, 6, 39), (32, 7, 40), (32, 9, 42), (32, 11, 44), (32, 12, 45), (32, 13, 46), (32, 14, 47), (48, 2, 51), (48, 3, 52), (48, 4, 53), (48, 6, 55), (48, 7, 56), (48, 9, 58), (48, 11, 60), (48, 12, 61), (48, 13, 62), (48, 14, 63), (64, 2, 67), (64, 3, 68), (64, 4, 69), (64, 6, 71), (64, 7, 72), (64, 9, 74), (64, 11, 76), (64, 12, 77), (64, 13, 78), (64, 14, 79)]
/-- what a field of a cell of the class's refers to when it comes -/
def cnr (a k : Nat) : Option Nat := (cn_t.find? (fun q => q.1 == a % 256 && q.2.1 == k)).map (fun q => a - a % 256 + q.2.2)
theorem cnr_ci {h r k : Nat} (hr : r < 256) : cnr (ci h r) k = (cn_t.find? (fun q => q.1 == r && q.2.1 == k)).map (fun q => ci h q.2.2) := by
  have e1 : ci h r % 256 = r := by unfold ci; omega
  unfold cnr; rw [e1]
  have e2 : ci h r - r = 256 * h := by unfold ci; omega
  rw [e2]; rfl
theorem cnr_no {h r : Nat} (fs : List Nat) (hr : r < 256) (ht : (cn_t.all (fun q => !(q.1 == r) || fs.contains q.2.1)) = true) {k : Nat} (hk : k ∉ fs) : cnr (ci h r) k = none := by
  rw [cnr_ci hr]
  rw [List.find?_eq_none.mpr]
  · rfl
  · intro q hq c
    have z := List.all_eq_true.mp ht q hq
    simp only [Bool.and_eq_true, beq_iff_eq] at c
    rw [c.1, c.2] at z
    simp at z
    exact hk z
def ACC (c : Nat → Nat → Option Nat) (as fs : List Nat) (a0 : Nat) (L : List Nat) (T : xa_AH) (R : xa_AR) (L1 : List Nat) (T1 : xa_AH) (R1 : xa_AR) : Prop :=
  L1 = L ++ as ∧ (∀ a, a ∉ as → T1 a = T a) ∧ (∀ a, a ∈ as → (∀ k, T1 a k = 0) ∧ ∀ k, R1 a k = c a k) ∧ (∀ a, a ∉ as → a ≠ a0 → R1 a = R a) ∧ (∀ k, R1 a0 k = if k ∈ fs then c a0 k else none) ∧ ∀ b k x, R1 b k = some x → x ∈ L1
section ACCS
variable {c : Nat → Nat → Option Nat} {as fs : List Nat} {a0 : Nat} {L : List Nat} {T : xa_AH} {R : xa_AR} {L1 : List Nat} {T1 : xa_AH} {R1 : xa_AR}
theorem acc_0 (h0 : ∀ k, R a0 k = none) (hcl : ∀ b k x, R b k = some x → x ∈ L) : ACC c [] [] a0 L T R L T R := by
  refine ⟨by simp, fun a _ => rfl, ?_, fun a _ _ => rfl, ?_, hcl⟩
  · intro a h; exact absurd h List.not_mem_nil
  · intro k; rw [h0, if_neg List.not_mem_nil]
theorem acc_m (g : ACC c as fs a0 L T R L1 T1 R1) {x : Nat} (hx : x ∈ L) : x ∈ L1 := by rw [g.1]; exact List.mem_append_left _ hx
theorem acc_n (g : ACC c as fs a0 L T R L1 T1 R1) {x : Nat} (hx : x ∉ L) (ha : x ∉ as) : x ∉ L1 := by
  rw [g.1]; intro z
  rcases List.mem_append.mp z with z | z
  · exact hx z
  · exact ha z
theorem acc_fr (g : ACC c as fs a0 L T R L1 T1 R1) {x : Nat} (hx : x ∉ L) (ha : x ∉ as) : ∀ b k, R1 b k ≠ some x := fun b k z => acc_n g hx ha (g.2.2.2.2.2 b k x z)
theorem acc_new (g : ACC c as fs a0 L T R L1 T1 R1) {x a : Nat} (hx : x ∉ L) (ha : x ∉ as) (hn : x ≠ a) : x ∉ L1 ++ [a] := by
  intro z
  rcases List.mem_append.mp z with z | z
  · exact acc_n g hx ha z
  · exact hn (List.mem_singleton.mp z)
theorem zr_cl {a : Nat} (g : ∀ b k x, R b k = some x → x ∈ L) : ∀ b k x, xa_zr R a b k = some x → x ∈ L ++ [a] := fun b k x z => by
  unfold xa_zr at z
  split at z
  · cases z
  · exact List.mem_append_left _ (g b k x z)
theorem zr_0 {a : Nat} : ∀ k, xa_zr R a a k = none := fun k => by simp [xa_zr]
theorem acc_up (g : ACC c as fs a0 L T R L1 T1 R1) (h0 : a0 ∉ as) {j : Nat} {v : Int32} : ACC c as fs a0 L (xa_up T a0 j v) R L1 (xa_up T1 a0 j v) R1 := by
  obtain ⟨g1, g2, g3, g4, g5, g6⟩ := g
  refine ⟨g1, fun a ha => ?_, fun a ha => ⟨fun k => ?_, (g3 a ha).2⟩, g4, g5, g6⟩
  · funext y; unfold xa_up; rw [g2 a ha]
  · rw [up_o (x := a) (a := a0) (fun e => h0 (by rw [← e]; exact ha))]; exact (g3 a ha).1 k
theorem acc_arr {a f : Nat} (g : ACC c as fs a0 L T R L1 T1 R1) (h0 : a0 ∉ as) (hne : a0 ≠ a) (hc : c a0 f = some a) (hn : ∀ k, c a k = none) : ACC c (as ++ [a]) (fs ++ [f]) a0 L T R (L1 ++ [a]) (xa_zi T1 a) (xa_upr (xa_zr R1 a) a0 f (some a)) := by
  obtain ⟨g1, g2, g3, g4, g5, g6⟩ := g
  have n1 : ∀ b, b ∉ as ++ [a] → b ∉ as ∧ b ≠ a := fun b hb => ⟨fun z => hb (List.mem_append_left _ z), fun z => hb (by rw [z]; exact List.mem_append_right _ List.mem_cons_self)⟩
  have n2 : ∀ b, b ∈ as ++ [a] → b ≠ a → b ∈ as := fun b hb e => by
    rcases List.mem_append.mp hb with z | z
    · exact z
    · exact absurd (List.mem_singleton.mp z) e
  refine ⟨by rw [g1, List.append_assoc], fun b hb => ?_, fun b hb => ⟨fun k => ?_, fun k => ?_⟩, fun b hb hb0 => ?_, fun k => ?_, fun b k x h => ?_⟩
  · funext y; simp only [xa_zi, (n1 b hb).2, if_false]; exact congrFun (g2 b (n1 b hb).1) y
  · by_cases e : b = a
    · simp [xa_zi, e]
    · simp only [xa_zi, e, if_false]; exact (g3 b (n2 b hb e)).1 k
  · by_cases e : b = a
    · subst e; rw [hn]; unfold xa_upr; rw [if_neg (fun z => hne z.1.symm)]; simp [xa_zr]
    · have e0 : b ≠ a0 := fun z => h0 (z ▸ n2 b hb e)
      unfold xa_upr; rw [if_neg (fun z => e0 z.1)]; simp only [xa_zr, e, if_false]; exact (g3 b (n2 b hb e)).2 k
  · funext k; unfold xa_upr; rw [if_neg (fun z => hb0 z.1)]; simp only [xa_zr, (n1 b hb).2, if_false]; exact congrFun (g4 b (n1 b hb).1 hb0) k
  · unfold xa_upr
    by_cases e : k = f
    · subst e; simp [hc]
    · rw [if_neg (fun z => e z.2)]; simp only [xa_zr, hne, if_false]; rw [g5]; simp [e]
  · unfold xa_upr at h; split at h
    · rw [← Option.some.inj h]; exact List.mem_append_right _ List.mem_cons_self
    · unfold xa_zr at h; split at h
      · cases h
      · exact List.mem_append_left _ (g6 b k x h)
theorem acc_obj {a f : Nat} {as' fs' : List Nat} {L2 : List Nat} {T2 : xa_AH} {R2 : xa_AR} (g : ACC c as fs a0 L T R L1 T1 R1) (g' : ACC c as' fs' a (L1 ++ [a]) (xa_zi T1 a) (xa_zr R1 a) L2 T2 R2) (h0 : a0 ∉ as) (h1 : a0 ∉ as') (h2 : a ∉ as') (hne : a0 ≠ a) (hc : c a0 f = some a) (hn : ∀ k, k ∉ fs' → c a k = none) : ACC c (as ++ a :: as') (fs ++ [f]) a0 L T R L2 T2 (xa_upr R2 a0 f (some a)) := by
  obtain ⟨g1, g2, g3, g4, g5, g6⟩ := g
  obtain ⟨k1, k2, k3, k4, k5, k6⟩ := g'
  have n1 : ∀ b, b ∉ as ++ a :: as' → b ∉ as ∧ b ≠ a ∧ b ∉ as' := fun b hb => by
    simp only [List.mem_append, List.mem_cons] at hb
    exact ⟨fun z => hb (Or.inl z), fun z => hb (Or.inr (Or.inl z)), fun z => hb (Or.inr (Or.inr z))⟩
  have e0 : ∀ b, b ∈ as ++ a :: as' → b ≠ a0 := fun b hb e => by
    subst e
    simp only [List.mem_append, List.mem_cons] at hb
    rcases hb with z | z | z
    · exact h0 z
    · exact hne z
    · exact h1 z
  have up : ∀ b, b ≠ a0 → xa_upr R2 a0 f (some a) b = R2 b := fun b hb => by funext k; unfold xa_upr; rw [if_neg (fun z => hb z.1)]
  have key : ∀ b, b ∈ as ++ a :: as' → (∀ k, T2 b k = 0) ∧ ∀ k, R2 b k = c b k := fun b hb => by
    by_cases e1 : b ∈ as'
    · exact k3 b e1
    · by_cases e2 : b = a
      · subst e2
        refine ⟨fun k => by rw [k2 b e1]; simp [xa_zi], fun k => ?_⟩
        rw [k5]
        split
        · rfl
        · next z => exact (hn k z).symm
      · have e3 : b ∈ as := by
          simp only [List.mem_append, List.mem_cons] at hb
          rcases hb with z | z | z
          · exact z
          · exact absurd z e2
          · exact absurd z e1
        refine ⟨fun k => ?_, fun k => ?_⟩
        · rw [k2 b e1]; simp only [xa_zi, e2, if_false]; exact (g3 b e3).1 k
        · rw [k4 b e1 e2]; simp only [xa_zr, e2, if_false]; exact (g3 b e3).2 k
  refine ⟨by rw [k1, g1]; simp, fun b hb => ?_, fun b hb => ⟨(key b hb).1, fun k => by rw [up b (e0 b hb)]; exact (key b hb).2 k⟩, fun b hb hb0 => ?_, fun k => ?_, fun b k x h => ?_⟩
  · have z := n1 b hb
    rw [k2 b z.2.2, ← g2 b z.1]; funext y; simp [xa_zi, z.2.1]
  · have z := n1 b hb
    rw [up b hb0, k4 b z.2.2 z.2.1, ← g4 b z.1 hb0]; funext y; simp [xa_zr, z.2.1]
  · unfold xa_upr
    by_cases e : k = f
    · subst e; simp [hc]
    · rw [if_neg (fun z => e z.2), k4 a0 h1 hne]; simp only [xa_zr, hne, if_false]; rw [g5]; simp [e]
  · unfold xa_upr at h; split at h
    · rw [← Option.some.inj h, k1]; exact List.mem_append_left _ (List.mem_append_right _ List.mem_cons_self)
    · exact k6 b k x h
end ACCS
theorem xa_newI {E : xa_EV} {M : xa_MC} {Z : xa_ZC} {kc ks pc : Nat} {ls : List (Option Value)} {st : List Value} {L : List Nat} {hi : xa_AH} {hr : xa_AR} {n : Int32} (a N : Nat) (hd : decode M.2.1 pc = .ok (.newarray .int, 2)) (hn : ¬ n < 0) (hN : n.toNatClampNeg = N) (hk : xa_kd a = 9) (hl : xa_ln a = N) (hb : N ≤ 2000) (ha : a ∉ L) (hZ : ¬ Z.2.2.2 a) (hst : Value.ref a ∉ st) (hls : some (Value.ref a) ∉ ls) (hfr : ∀ b k, hr b k ≠ some a) (hkc : 1 ≤ kc) (hks : N ≤ ks)
    (k : xa_W E M Z (kc - 1) (ks - N) (pc + 2) ls (.ref a :: st) (L ++ [a]) (xa_zi hi a) (xa_zr hr a)) : xa_W E M Z kc ks pc ls (.int n :: st) L hi hr :=
  xa_newarr (aty := .int) (ty := .int) a 9 0 rfl rfl (fun _ => rfl) (fun U x y h1 h2 => Option.some.inj ((show U.vm.findClass _ = some x from h1).symm.trans (show U.vm.findClass _ = some y from h2))) (fun dA al hi hr => xa_en_i hk) la_int hd hn (hN.trans hl.symm) (by rw [hl]; exact Nat.le_trans (Nat.mul_le_mul_right 4 hb) (by decide)) ha hZ hst hls hfr hkc (by rw [hl]; exact hks) (by rw [hl]; exact k)
theorem xa_newZ {E : xa_EV} {M : xa_MC} {Z : xa_ZC} {kc ks pc : Nat} {ls : List (Option Value)} {st : List Value} {L : List Nat} {hi : xa_AH} {hr : xa_AR} {n : Int32} (a N : Nat) (hd : decode M.2.1 pc = .ok (.newarray .boolean, 2)) (hn : ¬ n < 0) (hN : n.toNatClampNeg = N) (hk : xa_kd a = 10) (hl : xa_ln a = N) (hb : N ≤ 2000) (ha : a ∉ L) (hZ : ¬ Z.2.2.2 a) (hst : Value.ref a ∉ st) (hls : some (Value.ref a) ∉ ls) (hfr : ∀ b k, hr b k ≠ some a) (hkc : 1 ≤ kc) (hks : N ≤ ks)
    (k : xa_W E M Z (kc - 1) (ks - N) (pc + 2) ls (.ref a :: st) (L ++ [a]) (xa_zi hi a) (xa_zr hr a)) : xa_W E M Z kc ks pc ls (.int n :: st) L hi hr :=
  xa_newarr (aty := .boolean) (ty := .boolean) a 10 1 rfl rfl (fun _ => rfl) (fun U x y h1 h2 => Option.some.inj ((show U.vm.findClass _ = some x from h1).symm.trans (show U.vm.findClass _ = some y from h2))) (fun dA al hi hr => xa_en_z hk) la_bool hd hn (hN.trans hl.symm) (by rw [hl]; exact Nat.le_trans (Nat.mul_le_mul_right 1 hb) (by decide)) ha hZ hst hls hfr hkc (by rw [hl]; exact hks) (by rw [hl]; exact k)
/-- what is new, ends with nothing -/
def PN (c : Nat → Nat → Option Nat) (as fs : List Nat) (a0 : Nat) (L : List Nat) (T : xa_AH) (R : xa_AR) : Option Value → List Nat → xa_AH → xa_AR → Prop := fun r L1 T1 R1 => none = r ∧ ACC c as fs a0 L T R L1 T1 R1
