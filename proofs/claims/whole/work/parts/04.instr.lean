section XA4
variable {E : xa_EV} {M : xa_MC} {Z : xa_ZC} {kc ks pc : Nat} {ls : List (Option Value)} {st : List Value} {L : List Nat} {hi : xa_AH} {hr : xa_AR}
theorem xa_iadd {x y : Int32} (hd : decode M.2.1 pc = .ok (.iadd, 1))  (k : xa_W E M Z kc ks (pc + 1) ls (.int (x + y) :: st) L hi hr) : xa_W E M Z kc ks pc ls (.int y :: .int x :: st) L hi hr := by
  intro p e s m args below meth c al0 al H locs cells slots lm C hN hP hD hS hl hc hs
  exact lv_iadd C.1 C.2.1 hd  (k p e s m args below meth c al0 al H locs cells slots lm C hN hP hD hS hl hc hs)
theorem xa_isub {x y : Int32} (hd : decode M.2.1 pc = .ok (.isub, 1))  (k : xa_W E M Z kc ks (pc + 1) ls (.int (x - y) :: st) L hi hr) : xa_W E M Z kc ks pc ls (.int y :: .int x :: st) L hi hr := by
  intro p e s m args below meth c al0 al H locs cells slots lm C hN hP hD hS hl hc hs
  exact lv_isub C.1 C.2.1 hd  (k p e s m args below meth c al0 al H locs cells slots lm C hN hP hD hS hl hc hs)
theorem xa_imul {x y : Int32} (hd : decode M.2.1 pc = .ok (.imul, 1))  (k : xa_W E M Z kc ks (pc + 1) ls (.int (x * y) :: st) L hi hr) : xa_W E M Z kc ks pc ls (.int y :: .int x :: st) L hi hr := by
  intro p e s m args below meth c al0 al H locs cells slots lm C hN hP hD hS hl hc hs
  exact lv_imul C.1 C.2.1 hd  (k p e s m args below meth c al0 al H locs cells slots lm C hN hP hD hS hl hc hs)
theorem xa_iand {x y : Int32} (hd : decode M.2.1 pc = .ok (.iand, 1))  (k : xa_W E M Z kc ks (pc + 1) ls (.int (x &&& y) :: st) L hi hr) : xa_W E M Z kc ks pc ls (.int y :: .int x :: st) L hi hr := by
  intro p e s m args below meth c al0 al H locs cells slots lm C hN hP hD hS hl hc hs
  exact lv_iand C.1 C.2.1 hd  (k p e s m args below meth c al0 al H locs cells slots lm C hN hP hD hS hl hc hs)
theorem xa_ior {x y : Int32} (hd : decode M.2.1 pc = .ok (.ior, 1))  (k : xa_W E M Z kc ks (pc + 1) ls (.int (x ||| y) :: st) L hi hr) : xa_W E M Z kc ks pc ls (.int y :: .int x :: st) L hi hr := by
  intro p e s m args below meth c al0 al H locs cells slots lm C hN hP hD hS hl hc hs
  exact lv_ior C.1 C.2.1 hd  (k p e s m args below meth c al0 al H locs cells slots lm C hN hP hD hS hl hc hs)
theorem xa_ixor {x y : Int32} (hd : decode M.2.1 pc = .ok (.ixor, 1))  (k : xa_W E M Z kc ks (pc + 1) ls (.int (x ^^^ y) :: st) L hi hr) : xa_W E M Z kc ks pc ls (.int y :: .int x :: st) L hi hr := by
  intro p e s m args below meth c al0 al H locs cells slots lm C hN hP hD hS hl hc hs
  exact lv_ixor C.1 C.2.1 hd  (k p e s m args below meth c al0 al H locs cells slots lm C hN hP hD hS hl hc hs)
theorem xa_ishl {x y : Int32} (hd : decode M.2.1 pc = .ok (.ishl, 1))  (k : xa_W E M Z kc ks (pc + 1) ls (.int (x <<< (y &&& 31)) :: st) L hi hr) : xa_W E M Z kc ks pc ls (.int y :: .int x :: st) L hi hr := by
  intro p e s m args below meth c al0 al H locs cells slots lm C hN hP hD hS hl hc hs
  exact lv_ishl C.1 C.2.1 hd  (k p e s m args below meth c al0 al H locs cells slots lm C hN hP hD hS hl hc hs)
theorem xa_ishr {x y : Int32} (hd : decode M.2.1 pc = .ok (.ishr, 1))  (k : xa_W E M Z kc ks (pc + 1) ls (.int (x >>> (y &&& 31)) :: st) L hi hr) : xa_W E M Z kc ks pc ls (.int y :: .int x :: st) L hi hr := by
  intro p e s m args below meth c al0 al H locs cells slots lm C hN hP hD hS hl hc hs
  exact lv_ishr C.1 C.2.1 hd  (k p e s m args below meth c al0 al H locs cells slots lm C hN hP hD hS hl hc hs)
theorem xa_iushr {x y : Int32} (hd : decode M.2.1 pc = .ok (.iushr, 1))  (k : xa_W E M Z kc ks (pc + 1) ls (.int ((x.toUInt32 >>> (y.toUInt32 &&& Int32.toUInt32 31)).toInt32) :: st) L hi hr) : xa_W E M Z kc ks pc ls (.int y :: .int x :: st) L hi hr := by
  intro p e s m args below meth c al0 al H locs cells slots lm C hN hP hD hS hl hc hs
  exact lv_iushr C.1 C.2.1 hd rfl (k p e s m args below meth c al0 al H locs cells slots lm C hN hP hD hS hl hc hs)
theorem xa_idiv {x y : Int32} (hd : decode M.2.1 pc = .ok (.idiv, 1)) (hne : ¬ y = 0) (k : xa_W E M Z kc ks (pc + 1) ls (.int (x / y) :: st) L hi hr) : xa_W E M Z kc ks pc ls (.int y :: .int x :: st) L hi hr := by
  intro p e s m args below meth c al0 al H locs cells slots lm C hN hP hD hS hl hc hs
  exact lv_idiv C.1 C.2.1 hd hne (k p e s m args below meth c al0 al H locs cells slots lm C hN hP hD hS hl hc hs)
theorem xa_irem {x y : Int32} (hd : decode M.2.1 pc = .ok (.irem, 1)) (hne : ¬ y = 0) (k : xa_W E M Z kc ks (pc + 1) ls (.int (x - x / y * y) :: st) L hi hr) : xa_W E M Z kc ks pc ls (.int y :: .int x :: st) L hi hr := by
  intro p e s m args below meth c al0 al H locs cells slots lm C hN hP hD hS hl hc hs
  exact lv_irem C.1 C.2.1 hd hne (k p e s m args below meth c al0 al H locs cells slots lm C hN hP hD hS hl hc hs)
theorem xa_iconst {n : Int} {v : Int32} (hd : decode M.2.1 pc = .ok (.iconst n, 1)) (hv : Int32.ofInt n = v) (k : xa_W E M Z kc ks (pc + 1) ls (.int v :: st) L hi hr) : xa_W E M Z kc ks pc ls st L hi hr := by
  intro p e s m args below meth c al0 al H locs cells slots lm C hN hP hD hS hl hc hs
  exact lv_iconst C.1 C.2.1 hd hv (k p e s m args below meth c al0 al H locs cells slots lm C hN hP hD hS hl hc hs)
theorem xa_bipush {n : Int} {v : Int32} (hd : decode M.2.1 pc = .ok (.bipush n, 2)) (hv : (Int8.ofInt n).toInt32 = v) (k : xa_W E M Z kc ks (pc + 2) ls (.int v :: st) L hi hr) : xa_W E M Z kc ks pc ls st L hi hr := by
  intro p e s m args below meth c al0 al H locs cells slots lm C hN hP hD hS hl hc hs
  exact lv_bipush C.1 C.2.1 hd hv (k p e s m args below meth c al0 al H locs cells slots lm C hN hP hD hS hl hc hs)
theorem xa_sipush {n : Int} {v : Int32} (hd : decode M.2.1 pc = .ok (.sipush n, 3)) (hv : (Int16.ofInt n).toInt32 = v) (k : xa_W E M Z kc ks (pc + 3) ls (.int v :: st) L hi hr) : xa_W E M Z kc ks pc ls st L hi hr := by
  intro p e s m args below meth c al0 al H locs cells slots lm C hN hP hD hS hl hc hs
  exact lv_sipush C.1 C.2.1 hd hv (k p e s m args below meth c al0 al H locs cells slots lm C hN hP hD hS hl hc hs)
theorem xa_null  (hd : decode M.2.1 pc = .ok (.aconst_null, 1))  (k : xa_W E M Z kc ks (pc + 1) ls (.null :: st) L hi hr) : xa_W E M Z kc ks pc ls st L hi hr := by
  intro p e s m args below meth c al0 al H locs cells slots lm C hN hP hD hS hl hc hs
  exact lv_null C.1 C.2.1 hd  (k p e s m args below meth c al0 al H locs cells slots lm C hN hP hD hS hl hc hs)
theorem xa_dup {v : Value} (hd : decode M.2.1 pc = .ok (.dup, 1)) (hv : v.category = 1) (k : xa_W E M Z kc ks (pc + 1) ls (v :: v :: st) L hi hr) : xa_W E M Z kc ks pc ls (v :: st) L hi hr := by
  intro p e s m args below meth c al0 al H locs cells slots lm C hN hP hD hS hl hc hs
  exact lv_dup C.1 C.2.1 hd ((xa_cv_cat al v).trans hv) (k p e s m args below meth c al0 al H locs cells slots lm C hN hP hD hS hl hc hs)
theorem xa_dup2 {v w : Value} (hd : decode M.2.1 pc = .ok (.dup2, 1)) (hv : v.category = 1) (hw : w.category = 1) (k : xa_W E M Z kc ks (pc + 1) ls (v :: w :: v :: w :: st) L hi hr) : xa_W E M Z kc ks pc ls (v :: w :: st) L hi hr := by
  intro p e s m args below meth c al0 al H locs cells slots lm C hN hP hD hS hl hc hs
  exact lv_dup2_11 C.1 C.2.1 hd ((xa_cv_cat al v).trans hv) ((xa_cv_cat al w).trans hw) (k p e s m args below meth c al0 al H locs cells slots lm C hN hP hD hS hl hc hs)
theorem xa_goto {off : Int} {tgt : Nat} (hd : decode M.2.1 pc = .ok (.goto off, 3)) (ht : (pc : Int) + off = (tgt : Int)) (k : xa_W E M Z kc ks tgt ls st L hi hr) : xa_W E M Z kc ks pc ls st L hi hr := by
  intro p e s m args below meth c al0 al H locs cells slots lm C hN hP hD hS hl hc hs
  exact lv_goto C.1 C.2.1 hd ht (k p e s m args below meth c al0 al H locs cells slots lm C hN hP hD hS hl hc hs)
theorem xa_icmp_eq {x y : Int32} {off : Int} (tgt : Nat) (hd : decode M.2.1 pc = .ok (.if_icmp .eq off, 3)) (ht : (pc : Int) + off = (tgt : Int)) (kt : x = y → xa_W E M Z kc ks tgt ls st L hi hr) (kf : ¬ x = y → xa_W E M Z kc ks (pc + 3) ls st L hi hr) : xa_W E M Z kc ks pc ls (.int y :: .int x :: st) L hi hr := by
  intro p e s m args below meth c al0 al H locs cells slots lm C hN hP hD hS hl hc hs
  exact lv_icmp_eq C.1 C.2.1 hd ht (fun h => kt h p e s m args below meth c al0 al H locs cells slots lm C hN hP hD hS hl hc hs) (fun h => kf h p e s m args below meth c al0 al H locs cells slots lm C hN hP hD hS hl hc hs)
theorem xa_if_eq {x : Int32} {off : Int} (tgt : Nat) (hd : decode M.2.1 pc = .ok (.ifCond .eq off, 3)) (ht : (pc : Int) + off = (tgt : Int)) (kt : x = 0 → xa_W E M Z kc ks tgt ls st L hi hr) (kf : ¬ x = 0 → xa_W E M Z kc ks (pc + 3) ls st L hi hr) : xa_W E M Z kc ks pc ls (.int x :: st) L hi hr := by
  intro p e s m args below meth c al0 al H locs cells slots lm C hN hP hD hS hl hc hs
  exact lv_if_eq C.1 C.2.1 hd ht (fun h => kt h p e s m args below meth c al0 al H locs cells slots lm C hN hP hD hS hl hc hs) (fun h => kf h p e s m args below meth c al0 al H locs cells slots lm C hN hP hD hS hl hc hs)
theorem xa_icmp_ne {x y : Int32} {off : Int} (tgt : Nat) (hd : decode M.2.1 pc = .ok (.if_icmp .ne off, 3)) (ht : (pc : Int) + off = (tgt : Int)) (kt : ¬ x = y → xa_W E M Z kc ks tgt ls st L hi hr) (kf : x = y → xa_W E M Z kc ks (pc + 3) ls st L hi hr) : xa_W E M Z kc ks pc ls (.int y :: .int x :: st) L hi hr := by
  intro p e s m args below meth c al0 al H locs cells slots lm C hN hP hD hS hl hc hs
  exact lv_icmp_ne C.1 C.2.1 hd ht (fun h => kt h p e s m args below meth c al0 al H locs cells slots lm C hN hP hD hS hl hc hs) (fun h => kf h p e s m args below meth c al0 al H locs cells slots lm C hN hP hD hS hl hc hs)
theorem xa_if_ne {x : Int32} {off : Int} (tgt : Nat) (hd : decode M.2.1 pc = .ok (.ifCond .ne off, 3)) (ht : (pc : Int) + off = (tgt : Int)) (kt : ¬ x = 0 → xa_W E M Z kc ks tgt ls st L hi hr) (kf : x = 0 → xa_W E M Z kc ks (pc + 3) ls st L hi hr) : xa_W E M Z kc ks pc ls (.int x :: st) L hi hr := by
  intro p e s m args below meth c al0 al H locs cells slots lm C hN hP hD hS hl hc hs
  exact lv_if_ne C.1 C.2.1 hd ht (fun h => kt h p e s m args below meth c al0 al H locs cells slots lm C hN hP hD hS hl hc hs) (fun h => kf h p e s m args below meth c al0 al H locs cells slots lm C hN hP hD hS hl hc hs)
theorem xa_icmp_ge {x y : Int32} {off : Int} (tgt : Nat) (hd : decode M.2.1 pc = .ok (.if_icmp .ge off, 3)) (ht : (pc : Int) + off = (tgt : Int)) (kt : y ≤ x → xa_W E M Z kc ks tgt ls st L hi hr) (kf : ¬ y ≤ x → xa_W E M Z kc ks (pc + 3) ls st L hi hr) : xa_W E M Z kc ks pc ls (.int y :: .int x :: st) L hi hr := by
  intro p e s m args below meth c al0 al H locs cells slots lm C hN hP hD hS hl hc hs
  exact lv_icmp_ge C.1 C.2.1 hd ht (fun h => kt h p e s m args below meth c al0 al H locs cells slots lm C hN hP hD hS hl hc hs) (fun h => kf h p e s m args below meth c al0 al H locs cells slots lm C hN hP hD hS hl hc hs)
theorem xa_if_ge {x : Int32} {off : Int} (tgt : Nat) (hd : decode M.2.1 pc = .ok (.ifCond .ge off, 3)) (ht : (pc : Int) + off = (tgt : Int)) (kt : 0 ≤ x → xa_W E M Z kc ks tgt ls st L hi hr) (kf : ¬ 0 ≤ x → xa_W E M Z kc ks (pc + 3) ls st L hi hr) : xa_W E M Z kc ks pc ls (.int x :: st) L hi hr := by
  intro p e s m args below meth c al0 al H locs cells slots lm C hN hP hD hS hl hc hs
  exact lv_if_ge C.1 C.2.1 hd ht (fun h => kt h p e s m args below meth c al0 al H locs cells slots lm C hN hP hD hS hl hc hs) (fun h => kf h p e s m args below meth c al0 al H locs cells slots lm C hN hP hD hS hl hc hs)
theorem xa_icmp_gt {x y : Int32} {off : Int} (tgt : Nat) (hd : decode M.2.1 pc = .ok (.if_icmp .gt off, 3)) (ht : (pc : Int) + off = (tgt : Int)) (kt : y < x → xa_W E M Z kc ks tgt ls st L hi hr) (kf : ¬ y < x → xa_W E M Z kc ks (pc + 3) ls st L hi hr) : xa_W E M Z kc ks pc ls (.int y :: .int x :: st) L hi hr := by
  intro p e s m args below meth c al0 al H locs cells slots lm C hN hP hD hS hl hc hs
  exact lv_icmp_gt C.1 C.2.1 hd ht (fun h => kt h p e s m args below meth c al0 al H locs cells slots lm C hN hP hD hS hl hc hs) (fun h => kf h p e s m args below meth c al0 al H locs cells slots lm C hN hP hD hS hl hc hs)
theorem xa_if_gt {x : Int32} {off : Int} (tgt : Nat) (hd : decode M.2.1 pc = .ok (.ifCond .gt off, 3)) (ht : (pc : Int) + off = (tgt : Int)) (kt : 0 < x → xa_W E M Z kc ks tgt ls st L hi hr) (kf : ¬ 0 < x → xa_W E M Z kc ks (pc + 3) ls st L hi hr) : xa_W E M Z kc ks pc ls (.int x :: st) L hi hr := by
  intro p e s m args below meth c al0 al H locs cells slots lm C hN hP hD hS hl hc hs
  exact lv_if_gt C.1 C.2.1 hd ht (fun h => kt h p e s m args below meth c al0 al H locs cells slots lm C hN hP hD hS hl hc hs) (fun h => kf h p e s m args below meth c al0 al H locs cells slots lm C hN hP hD hS hl hc hs)
theorem xa_icmp_le {x y : Int32} {off : Int} (tgt : Nat) (hd : decode M.2.1 pc = .ok (.if_icmp .le off, 3)) (ht : (pc : Int) + off = (tgt : Int)) (kt : x ≤ y → xa_W E M Z kc ks tgt ls st L hi hr) (kf : ¬ x ≤ y → xa_W E M Z kc ks (pc + 3) ls st L hi hr) : xa_W E M Z kc ks pc ls (.int y :: .int x :: st) L hi hr := by
  intro p e s m args below meth c al0 al H locs cells slots lm C hN hP hD hS hl hc hs
  exact lv_icmp_le C.1 C.2.1 hd ht (fun h => kt h p e s m args below meth c al0 al H locs cells slots lm C hN hP hD hS hl hc hs) (fun h => kf h p e s m args below meth c al0 al H locs cells slots lm C hN hP hD hS hl hc hs)
theorem xa_if_le {x : Int32} {off : Int} (tgt : Nat) (hd : decode M.2.1 pc = .ok (.ifCond .le off, 3)) (ht : (pc : Int) + off = (tgt : Int)) (kt : x ≤ 0 → xa_W E M Z kc ks tgt ls st L hi hr) (kf : ¬ x ≤ 0 → xa_W E M Z kc ks (pc + 3) ls st L hi hr) : xa_W E M Z kc ks pc ls (.int x :: st) L hi hr := by
  intro p e s m args below meth c al0 al H locs cells slots lm C hN hP hD hS hl hc hs
  exact lv_if_le C.1 C.2.1 hd ht (fun h => kt h p e s m args below meth c al0 al H locs cells slots lm C hN hP hD hS hl hc hs) (fun h => kf h p e s m args below meth c al0 al H locs cells slots lm C hN hP hD hS hl hc hs)
theorem xa_icmp_lt {x y : Int32} {off : Int} (tgt : Nat) (hd : decode M.2.1 pc = .ok (.if_icmp .lt off, 3)) (ht : (pc : Int) + off = (tgt : Int)) (kt : x < y → xa_W E M Z kc ks tgt ls st L hi hr) (kf : ¬ x < y → xa_W E M Z kc ks (pc + 3) ls st L hi hr) : xa_W E M Z kc ks pc ls (.int y :: .int x :: st) L hi hr := by
  intro p e s m args below meth c al0 al H locs cells slots lm C hN hP hD hS hl hc hs
  exact lv_icmp_lt C.1 C.2.1 hd ht (fun h => kt h p e s m args below meth c al0 al H locs cells slots lm C hN hP hD hS hl hc hs) (fun h => kf h p e s m args below meth c al0 al H locs cells slots lm C hN hP hD hS hl hc hs)
theorem xa_if_lt {x : Int32} {off : Int} (tgt : Nat) (hd : decode M.2.1 pc = .ok (.ifCond .lt off, 3)) (ht : (pc : Int) + off = (tgt : Int)) (kt : x < 0 → xa_W E M Z kc ks tgt ls st L hi hr) (kf : ¬ x < 0 → xa_W E M Z kc ks (pc + 3) ls st L hi hr) : xa_W E M Z kc ks pc ls (.int x :: st) L hi hr := by
  intro p e s m args below meth c al0 al H locs cells slots lm C hN hP hD hS hl hc hs
  exact lv_if_lt C.1 C.2.1 hd ht (fun h => kt h p e s m args below meth c al0 al H locs cells slots lm C hN hP hD hS hl hc hs) (fun h => kf h p e s m args below meth c al0 al H locs cells slots lm C hN hP hD hS hl hc hs)
theorem xa_ifnull_ref {a : Nat} {off : Int} (hd : decode M.2.1 pc = .ok (.ifnull off, 3)) (k : xa_W E M Z kc ks (pc + 3) ls st L hi hr) : xa_W E M Z kc ks pc ls (.ref a :: st) L hi hr := by
  intro p e s m args below meth c al0 al H locs cells slots lm C hN hP hD hS hl hc hs
  exact lv_ifnull C.1 C.2.1 hd (k p e s m args below meth c al0 al H locs cells slots lm C hN hP hD hS hl hc hs)
theorem xa_ifnull_null {off : Int} (tgt : Nat) (hd : decode M.2.1 pc = .ok (.ifnull off, 3)) (ht : (pc : Int) + off = (tgt : Int)) (k : xa_W E M Z kc ks tgt ls st L hi hr) : xa_W E M Z kc ks pc ls (.null :: st) L hi hr := by
  intro p e s m args below meth c al0 al H locs cells slots lm C hN hP hD hS hl hc hs
  exact lv_ifnullN C.1 C.2.1 hd ht (k p e s m args below meth c al0 al H locs cells slots lm C hN hP hD hS hl hc hs)
theorem xa_ifnonnull_ref {a : Nat} {off : Int} (tgt : Nat) (hd : decode M.2.1 pc = .ok (.ifnonnull off, 3)) (ht : (pc : Int) + off = (tgt : Int)) (k : xa_W E M Z kc ks tgt ls st L hi hr) : xa_W E M Z kc ks pc ls (.ref a :: st) L hi hr := by
  intro p e s m args below meth c al0 al H locs cells slots lm C hN hP hD hS hl hc hs
  exact lv_ifnonnull C.1 C.2.1 hd ht (k p e s m args below meth c al0 al H locs cells slots lm C hN hP hD hS hl hc hs)
theorem xa_ifnonnull_null {off : Int} (hd : decode M.2.1 pc = .ok (.ifnonnull off, 3)) (k : xa_W E M Z kc ks (pc + 3) ls st L hi hr) : xa_W E M Z kc ks pc ls (.null :: st) L hi hr := by
  intro p e s m args below meth c al0 al H locs cells slots lm C hN hP hD hS hl hc hs
  exact lv_ifnonnullN C.1 C.2.1 hd (k p e s m args below meth c al0 al H locs cells slots lm C hN hP hD hS hl hc hs)
theorem xa_ifnull {o : Option Nat} {off : Int} (tgt : Nat) (hd : decode M.2.1 pc = .ok (.ifnull off, 3)) (ht : (pc : Int) + off = (tgt : Int)) (kt : o = none → xa_W E M Z kc ks tgt ls st L hi hr) (kf : ∀ a, o = some a → xa_W E M Z kc ks (pc + 3) ls st L hi hr) : xa_W E M Z kc ks pc ls (va_rf o :: st) L hi hr := by
  cases o with
  | none => exact xa_ifnull_null tgt hd ht (kt rfl)
  | some a => exact xa_ifnull_ref hd (kf a rfl)
theorem xa_ifnonnull {o : Option Nat} {off : Int} (tgt : Nat) (hd : decode M.2.1 pc = .ok (.ifnonnull off, 3)) (ht : (pc : Int) + off = (tgt : Int)) (kt : ∀ a, o = some a → xa_W E M Z kc ks tgt ls st L hi hr) (kf : o = none → xa_W E M Z kc ks (pc + 3) ls st L hi hr) : xa_W E M Z kc ks pc ls (va_rf o :: st) L hi hr := by
  cases o with
  | none => exact xa_ifnonnull_null hd (kf rfl)
  | some a => exact xa_ifnonnull_ref tgt hd ht (kt a rfl)
theorem xa_maps {dA : Nat → ClassId} {al : Nat → Nat} {A : Nat → Prop} (hD : va_D A (xa_wd dA al L hi hr)) {rx ry : Option Nat} (hx : ∀ a, rx = some a → a ∈ L) (hy : ∀ a, ry = some a → a ∈ L) : rx.map al = ry.map al ↔ rx = ry := by
  constructor
  · intro h
    cases rx with
    | none => cases ry with
      | none => rfl
      | some b => simp at h
    | some a => cases ry with
      | none => simp at h
      | some b => rw [xa_inj hD (hx a rfl) (hy b rfl) (by simpa using h)]
  · intro h; rw [h]
theorem xa_acmp_eq {rx ry : Option Nat} {off : Int} (tgt : Nat) (hd : decode M.2.1 pc = .ok (.if_acmp .eq off, 3)) (ht : (pc : Int) + off = (tgt : Int)) (hx : ∀ a, rx = some a → a ∈ L) (hy : ∀ a, ry = some a → a ∈ L) (kt : rx = ry → xa_W E M Z kc ks tgt ls st L hi hr) (kf : ¬ rx = ry → xa_W E M Z kc ks (pc + 3) ls st L hi hr) : xa_W E M Z kc ks pc ls (va_rf ry :: va_rf rx :: st) L hi hr := by
  intro p e s m args below meth c al0 al H locs cells slots lm C hN hP hD hS hl hc hs
  have hm := xa_maps hD hx hy
  show W p E.1 e M.2.2.2.2 s m args below meth c H locs cells slots (Z.1 s args below al0) (F0 m pc lm (xa_cv al (va_rf ry) :: xa_cv al (va_rf rx) :: st.map (xa_cv al)))
  rw [xa_cv_rf, xa_cv_rf]
  exact lv_acmp_eq C.1 C.2.1 hd ht (fun h => kt (by rw [← hm]; exact h) p e s m args below meth c al0 al H locs cells slots lm C hN hP hD hS hl hc hs) (fun h => kf (by rw [← hm]; exact h) p e s m args below meth c al0 al H locs cells slots lm C hN hP hD hS hl hc hs)
theorem xa_acmp_ne {rx ry : Option Nat} {off : Int} (tgt : Nat) (hd : decode M.2.1 pc = .ok (.if_acmp .ne off, 3)) (ht : (pc : Int) + off = (tgt : Int)) (hx : ∀ a, rx = some a → a ∈ L) (hy : ∀ a, ry = some a → a ∈ L) (kt : ¬ rx = ry → xa_W E M Z kc ks tgt ls st L hi hr) (kf : rx = ry → xa_W E M Z kc ks (pc + 3) ls st L hi hr) : xa_W E M Z kc ks pc ls (va_rf ry :: va_rf rx :: st) L hi hr := by
  intro p e s m args below meth c al0 al H locs cells slots lm C hN hP hD hS hl hc hs
  have hm := xa_maps hD hx hy
  show W p E.1 e M.2.2.2.2 s m args below meth c H locs cells slots (Z.1 s args below al0) (F0 m pc lm (xa_cv al (va_rf ry) :: xa_cv al (va_rf rx) :: st.map (xa_cv al)))
  rw [xa_cv_rf, xa_cv_rf]
  exact lv_acmp_ne C.1 C.2.1 hd ht (fun h => kt (by rw [← hm]; exact h) p e s m args below meth c al0 al H locs cells slots lm C hN hP hD hS hl hc hs) (fun h => kf (by rw [← hm]; exact h) p e s m args below meth c al0 al H locs cells slots lm C hN hP hD hS hl hc hs)
theorem xa_iload_n {k : Fin 4} {x : Int32} (hd : decode M.2.1 pc = .ok (.iload_n k, 1)) (hv : ls[(k : Nat)]? = some (some (.int x))) (kk : xa_W E M Z kc ks (pc + 1) ls (.int x :: st) L hi hr) : xa_W E M Z kc ks pc ls st L hi hr := by
  intro p e s m args below meth c al0 al H locs cells slots lm C hN hP hD hS hl hc hs
  obtain ⟨lv, h1, h2, h3⟩ := id hl
  exact lv_iload_n C.1 C.2.1 hd rfl (h1.2.2 _ (h3 _ _ hv)) (kk p e s m args below meth c al0 al H locs cells slots lm C hN hP hD hS hl hc hs)
theorem xa_iload {i : Nat} {x : Int32} (hd : decode M.2.1 pc = .ok (.iload i, 2)) (hv : ls[i]? = some (some (.int x))) (kk : xa_W E M Z kc ks (pc + 2) ls (.int x :: st) L hi hr) : xa_W E M Z kc ks pc ls st L hi hr := by
  intro p e s m args below meth c al0 al H locs cells slots lm C hN hP hD hS hl hc hs
  obtain ⟨lv, h1, h2, h3⟩ := id hl
  exact lv_iload C.1 C.2.1 hd (h1.2.2 _ (h3 _ _ hv)) (kk p e s m args below meth c al0 al H locs cells slots lm C hN hP hD hS hl hc hs)
theorem xa_aload_n {k : Fin 4} {x : Nat} (hd : decode M.2.1 pc = .ok (.aload_n k, 1)) (hv : ls[(k : Nat)]? = some (some (.ref x))) (kk : xa_W E M Z kc ks (pc + 1) ls (.ref x :: st) L hi hr) : xa_W E M Z kc ks pc ls st L hi hr := by
  intro p e s m args below meth c al0 al H locs cells slots lm C hN hP hD hS hl hc hs
  obtain ⟨lv, h1, h2, h3⟩ := id hl
  exact lv_aload_n C.1 C.2.1 hd rfl (h1.2.2 _ (h3 _ _ hv)) (kk p e s m args below meth c al0 al H locs cells slots lm C hN hP hD hS hl hc hs)
theorem xa_aload {i : Nat} {x : Nat} (hd : decode M.2.1 pc = .ok (.aload i, 2)) (hv : ls[i]? = some (some (.ref x))) (kk : xa_W E M Z kc ks (pc + 2) ls (.ref x :: st) L hi hr) : xa_W E M Z kc ks pc ls st L hi hr := by
  intro p e s m args below meth c al0 al H locs cells slots lm C hN hP hD hS hl hc hs
  obtain ⟨lv, h1, h2, h3⟩ := id hl
  exact lv_aload C.1 C.2.1 hd (h1.2.2 _ (h3 _ _ hv)) (kk p e s m args below meth c al0 al H locs cells slots lm C hN hP hD hS hl hc hs)
theorem xa_aload_nN {k : Fin 4} (hd : decode M.2.1 pc = .ok (.aload_n k, 1)) (hv : ls[(k : Nat)]? = some (some (.null))) (kk : xa_W E M Z kc ks (pc + 1) ls (.null :: st) L hi hr) : xa_W E M Z kc ks pc ls st L hi hr := by
  intro p e s m args below meth c al0 al H locs cells slots lm C hN hP hD hS hl hc hs
  obtain ⟨lv, h1, h2, h3⟩ := id hl
  exact lv_aload_nN C.1 C.2.1 hd rfl (h1.2.2 _ (h3 _ _ hv)) (kk p e s m args below meth c al0 al H locs cells slots lm C hN hP hD hS hl hc hs)
theorem xa_aloadN {i : Nat} (hd : decode M.2.1 pc = .ok (.aload i, 2)) (hv : ls[i]? = some (some (.null))) (kk : xa_W E M Z kc ks (pc + 2) ls (.null :: st) L hi hr) : xa_W E M Z kc ks pc ls st L hi hr := by
  intro p e s m args below meth c al0 al H locs cells slots lm C hN hP hD hS hl hc hs
  obtain ⟨lv, h1, h2, h3⟩ := id hl
  exact lv_aloadN C.1 C.2.1 hd (h1.2.2 _ (h3 _ _ hv)) (kk p e s m args below meth c al0 al H locs cells slots lm C hN hP hD hS hl hc hs)
theorem xa_istore_n {k : Fin 4} {x : Int32} (hd : decode M.2.1 pc = .ok (.istore_n k, 1)) (hn : (k : Nat) < M.2.2.1) (kk : xa_W E M Z kc ks (pc + 1) (ls.set (k : Nat) (some (.int x))) st L hi hr) : xa_W E M Z kc ks pc ls (.int x :: st) L hi hr := by
  intro p e s m args below meth c al0 al H locs cells slots lm C hN hP hD hS hl hc hs
  obtain ⟨lv, h1, h2, h3⟩ := id hl
  exact lv_istore_n C.1 C.2.1 hd rfl h1 hn rfl (fun lm' h' => kk p e s m args below meth c al0 al H locs cells slots lm' C hN hP hD hS (xa_lv_st (v := .int x) h2 h3 rfl h') hc hs)
theorem xa_istore {i : Nat} {x : Int32} (hd : decode M.2.1 pc = .ok (.istore i, 2)) (hn : i < M.2.2.1) (kk : xa_W E M Z kc ks (pc + 2) (ls.set i (some (.int x))) st L hi hr) : xa_W E M Z kc ks pc ls (.int x :: st) L hi hr := by
  intro p e s m args below meth c al0 al H locs cells slots lm C hN hP hD hS hl hc hs
  obtain ⟨lv, h1, h2, h3⟩ := id hl
  exact lv_istore C.1 C.2.1 hd h1 hn rfl (fun lm' h' => kk p e s m args below meth c al0 al H locs cells slots lm' C hN hP hD hS (xa_lv_st (v := .int x) h2 h3 rfl h') hc hs)
theorem xa_astore_n {k : Fin 4} {x : Nat} (hd : decode M.2.1 pc = .ok (.astore_n k, 1)) (hn : (k : Nat) < M.2.2.1) (kk : xa_W E M Z kc ks (pc + 1) (ls.set (k : Nat) (some (.ref x))) st L hi hr) : xa_W E M Z kc ks pc ls (.ref x :: st) L hi hr := by
  intro p e s m args below meth c al0 al H locs cells slots lm C hN hP hD hS hl hc hs
  obtain ⟨lv, h1, h2, h3⟩ := id hl
  exact lv_astore_n C.1 C.2.1 hd rfl h1 hn rfl (fun lm' h' => kk p e s m args below meth c al0 al H locs cells slots lm' C hN hP hD hS (xa_lv_st (v := .ref x) h2 h3 rfl h') hc hs)
theorem xa_astore {i : Nat} {x : Nat} (hd : decode M.2.1 pc = .ok (.astore i, 2)) (hn : i < M.2.2.1) (kk : xa_W E M Z kc ks (pc + 2) (ls.set i (some (.ref x))) st L hi hr) : xa_W E M Z kc ks pc ls (.ref x :: st) L hi hr := by
  intro p e s m args below meth c al0 al H locs cells slots lm C hN hP hD hS hl hc hs
  obtain ⟨lv, h1, h2, h3⟩ := id hl
  exact lv_astore C.1 C.2.1 hd h1 hn rfl (fun lm' h' => kk p e s m args below meth c al0 al H locs cells slots lm' C hN hP hD hS (xa_lv_st (v := .ref x) h2 h3 rfl h') hc hs)
theorem xa_astore_nN {k : Fin 4} (hd : decode M.2.1 pc = .ok (.astore_n k, 1)) (hn : (k : Nat) < M.2.2.1) (kk : xa_W E M Z kc ks (pc + 1) (ls.set (k : Nat) (some (.null))) st L hi hr) : xa_W E M Z kc ks pc ls (.null :: st) L hi hr := by
  intro p e s m args below meth c al0 al H locs cells slots lm C hN hP hD hS hl hc hs
  obtain ⟨lv, h1, h2, h3⟩ := id hl
  exact lv_astore_nN C.1 C.2.1 hd rfl h1 hn rfl (fun lm' h' => kk p e s m args below meth c al0 al H locs cells slots lm' C hN hP hD hS (xa_lv_st (v := .null) h2 h3 rfl h') hc hs)
theorem xa_astoreN {i : Nat} (hd : decode M.2.1 pc = .ok (.astore i, 2)) (hn : i < M.2.2.1) (kk : xa_W E M Z kc ks (pc + 2) (ls.set i (some (.null))) st L hi hr) : xa_W E M Z kc ks pc ls (.null :: st) L hi hr := by
  intro p e s m args below meth c al0 al H locs cells slots lm C hN hP hD hS hl hc hs
  obtain ⟨lv, h1, h2, h3⟩ := id hl
  exact lv_astoreN C.1 C.2.1 hd h1 hn rfl (fun lm' h' => kk p e s m args below meth c al0 al H locs cells slots lm' C hN hP hD hS (xa_lv_st (v := .null) h2 h3 rfl h') hc hs)
theorem xa_iinc {i : Nat} {n : Int} {x : Int32} {v : Int32} (hd : decode M.2.1 pc = .ok (.iinc i n, 3)) (hv : ls[i]? = some (some (.int x))) (hn : i < M.2.2.1) (he : x + Int32.ofInt n = v) (kk : xa_W E M Z kc ks (pc + 3) (ls.set i (some (.int v))) st L hi hr) : xa_W E M Z kc ks pc ls st L hi hr := by
  intro p e s m args below meth c al0 al H locs cells slots lm C hN hP hD hS hl hc hs
  obtain ⟨lv, h1, h2, h3⟩ := id hl
  obtain ⟨q, hq⟩ := List.getElem?_of_mem (h3 _ _ hv)
  exact lv_iinc C.1 C.2.1 hd h1 (k := q) hq he hn rfl (fun lm' h' => kk p e s m args below meth c al0 al H locs cells slots lm' C hN hP hD hS (xa_lv_st (v := .int v) h2 h3 rfl h') hc hs)
theorem xa_ldc {i : Nat} {v : Int32} (hd : decode M.2.1 pc = .ok (.ldc i, 2)) (hw : Cond.constant M.1.cls i v ∈ xa_G) (k : xa_W E M Z kc ks (pc + 2) ls (.int v :: st) L hi hr) : xa_W E M Z kc ks pc ls st L hi hr := by
  intro p e s m args below meth c al0 al H locs cells slots lm C hN hP hD hS hl hc hs
  exact lv_ldc C.1 C.2.1 C.2.2.2.2.1 (C.2.2.2.2.2.1 _ hw) hd (k p e s m args below meth c al0 al H locs cells slots lm C hN hP hD hS hl hc hs)
theorem xa_ldcw {i : Nat} {v : Int32} (hd : decode M.2.1 pc = .ok (.ldc_w i, 3)) (hw : Cond.constant M.1.cls i v ∈ xa_G) (k : xa_W E M Z kc ks (pc + 3) ls (.int v :: st) L hi hr) : xa_W E M Z kc ks pc ls st L hi hr := by
  intro p e s m args below meth c al0 al H locs cells slots lm C hN hP hD hS hl hc hs
  exact lv_ldcw C.1 C.2.1 C.2.2.2.2.1 (C.2.2.2.2.2.1 _ hw) hd (k p e s m args below meth c al0 al H locs cells slots lm C hN hP hD hS hl hc hs)
theorem xa_tableIn {dflt lo hj : Int} {offs : Array Int} {len : Nat} {x : Int32} {off : Int} (tgt : Nat) (hd : decode M.2.1 pc = .ok (.tableswitch dflt lo hj offs, len)) (h1 : ¬ x.toInt < lo) (h2 : ¬ hj < x.toInt) (ho : offs[(x.toInt - lo).toNat]? = some off) (ht : (pc : Int) + off = (tgt : Int)) (k : xa_W E M Z kc ks tgt ls st L hi hr) : xa_W E M Z kc ks pc ls (.int x :: st) L hi hr := by
  intro p e s m args below meth c al0 al H locs cells slots lm C hN hP hD hS hl hc hs
  exact lv_tableIn C.1 C.2.1 hd h1 h2 ho ht (k p e s m args below meth c al0 al H locs cells slots lm C hN hP hD hS hl hc hs)
theorem xa_tableOut {dflt lo hj : Int} {offs : Array Int} {len : Nat} {x : Int32} (tgt : Nat) (hd : decode M.2.1 pc = .ok (.tableswitch dflt lo hj offs, len)) (h : x.toInt < lo ∨ hj < x.toInt) (ht : (pc : Int) + dflt = (tgt : Int)) (k : xa_W E M Z kc ks tgt ls st L hi hr) : xa_W E M Z kc ks pc ls (.int x :: st) L hi hr := by
  intro p e s m args below meth c al0 al H locs cells slots lm C hN hP hD hS hl hc hs
  exact lv_tableOut C.1 C.2.1 hd h ht (k p e s m args below meth c al0 al H locs cells slots lm C hN hP hD hS hl hc hs)
theorem xa_fv {al : Nat → Nat} {a ci N kf : Nat} (hN : N = xa_nT.getD ci 0) (hf : kf < N) (v : Value) (hv : xa_sv al hi hr a kf = v) : ((List.range (xa_nT.getD ci 0)).map (xa_sv al hi hr a))[kf]? = some v := by
  rw [← hN]
  simp [hf, hv]
theorem xa_getI {a idx : Nat} (ci kf : Nat) (hF : xa_FL M.1.cls idx ci kf) (hd : decode M.2.1 pc = .ok (.getfield idx, 3)) (ha : a ∈ L) (hk : xa_kd a = ci) (hr0 : xa_isR ci kf = false) (k : xa_W E M Z kc ks (pc + 3) ls (.int (hi a kf) :: st) L hi hr) : xa_W E M Z kc ks pc ls (.ref a :: st) L hi hr := by
  intro p e s m args below meth c al0 al H locs cells slots lm C hN hP hD hS hl hc hs
  obtain ⟨Cn, T, N, h1, h2, h3, h4, h5⟩ := hF
  obtain ⟨q0, hq, hw⟩ := xa_get? (dA := E.2.2) (al := al) (hi := hi) (hr := hr) ha
  rw [xa_en_o hk (xa_ci h1)] at hw
  exact va_get C.1 C.2.1 (Ts := xa_G) C.2.2.2.2.2.1 h3 C.2.2.2.2.1 C.2.2.2.2.2.2.2.2.1.1 hP q0 hw h1 kf h4 (C.2.2.2.2.2.1 _ h5) (fun _ h => h) (xa_fv h2 h4 (.int (hi a kf)) (by simp [xa_sv, hk, hr0])) hd (k p e s m args below meth c al0 al H locs cells slots lm C hN hP hD hS hl hc hs)
theorem xa_getR {a idx : Nat} (ci kf : Nat) (o : Option Nat) (hF : xa_FL M.1.cls idx ci kf) (hd : decode M.2.1 pc = .ok (.getfield idx, 3)) (ha : a ∈ L) (hk : xa_kd a = ci) (hr0 : xa_isR ci kf = true) (ho : hr a kf = o) (k : xa_W E M Z kc ks (pc + 3) ls (va_rf o :: st) L hi hr) : xa_W E M Z kc ks pc ls (.ref a :: st) L hi hr := by
  intro p e s m args below meth c al0 al H locs cells slots lm C hN hP hD hS hl hc hs
  obtain ⟨Cn, T, N, h1, h2, h3, h4, h5⟩ := hF
  obtain ⟨q0, hq, hw⟩ := xa_get? (dA := E.2.2) (al := al) (hi := hi) (hr := hr) ha
  rw [xa_en_o hk (xa_ci h1)] at hw
  have k2 := k p e s m args below meth c al0 al H locs cells slots lm C hN hP hD hS hl hc hs
  have e : (va_rf o :: st).map (xa_cv al) = va_rf (o.map al) :: st.map (xa_cv al) := by rw [List.map_cons, xa_cv_rf]
  rw [e] at k2
  exact va_get C.1 C.2.1 (Ts := xa_G) C.2.2.2.2.2.1 h3 C.2.2.2.2.1 C.2.2.2.2.2.2.2.2.1.1 hP q0 hw h1 kf h4 (C.2.2.2.2.2.1 _ h5) (fun _ h => h) (xa_fv h2 h4 (va_rf (o.map al)) (by simp [xa_sv, hk, hr0, ho])) hd k2
theorem xa_up_self (h : xa_AH) (a k : Nat) (v : Int32) : xa_up h a k v a k = v := by simp [xa_up]
theorem xa_sv_up {al : Nat → Nat} {a ci kf : Nat} {v : Int32} (hk : xa_kd a = ci) (hr0 : xa_isR ci kf = false) : xa_sv al (xa_up hi a kf v) hr a kf = .int v := by simp [xa_sv, hk, hr0, xa_up]
theorem xa_sv_upn {al : Nat → Nat} {a kf j : Nat} {v : Int32} (h : j ≠ kf) : xa_sv al (xa_up hi a kf v) hr a j = xa_sv al hi hr a j := by simp [xa_sv, xa_up, h]
theorem xa_sv_upr {al : Nat → Nat} {a ci kf : Nat} {v : Option Nat} (hk : xa_kd a = ci) (hr0 : xa_isR ci kf = true) : xa_sv al hi (xa_upr hr a kf v) a kf = va_rf (v.map al) := by simp [xa_sv, hk, hr0, xa_upr]
theorem xa_sv_uprn {al : Nat → Nat} {a kf j : Nat} {v : Option Nat} (h : j ≠ kf) : xa_sv al hi (xa_upr hr a kf v) a j = xa_sv al hi hr a j := by simp [xa_sv, xa_upr, h]
theorem xa_putI {a idx : Nat} {ty : FieldType} {x : Int32} (ci kf : Nat) (hF : xa_FP M.1.cls idx ci kf ty) (hd : decode M.2.1 pc = .ok (.putfield idx, 3)) (ha : a ∈ L) (hk : xa_kd a = ci) (hr0 : xa_isR ci kf = false) (hn : narrow ty (.int x) = .int x) (hfit : fits ty (.int x) = true) (k : xa_W E M Z kc ks (pc + 3) ls st L (xa_up hi a kf x) hr) : xa_W E M Z kc ks pc ls (.int x :: .ref a :: st) L hi hr := by
  intro p e s m args below meth c al0 al H locs cells slots lm C hN hP hD hS hl hc hs
  obtain ⟨Cn, T, N, ty0, h1, h2, h3, h4, h5, h6, h7, h8, h9⟩ := hF
  obtain ⟨q0, hq, hw⟩ := xa_get? (dA := E.2.2) (al := al) (hi := hi) (hr := hr) ha
  rw [xa_en_o hk (xa_ci h1)] at hw
  refine va_put (v := .int x) C.1 C.2.1 (Ts := xa_G) C.2.2.2.2.2.1 h3 ty0 h6 h7 C.2.2.2.2.1 C.2.2.2.2.2.2.2.2.1.1 hP hD hS q0 hw h1 kf h4 (C.2.2.2.2.2.1 _ h5) (fun _ h => h) h8 h9 hn hfit (by rw [List.length_map, List.length_range, ← h2]; exact h4) hd (fun H1 locs1 hP1 hD1 hS1 => ?_)
  have e9 : (xa_wd E.2.2 al L hi hr).set q0 (al a, .inr (ci, ((List.range (xa_nT.getD ci 0)).map (xa_sv al hi hr a)).set kf (.int x))) = xa_wd E.2.2 al L (xa_up hi a kf x) hr := by
    refine xa_setw hD hq (fun b hb => xa_en_up b hb) ?_
    rw [xa_en_o hk (xa_ci h1), xa_rng_set (by rw [← h2]; exact h4) _ (xa_sv al (xa_up hi a kf x) hr a) _ (xa_sv_up hk hr0) (fun j hj => xa_sv_upn hj)]
  rw [e9] at hP1 hD1
  exact k p e s m args below meth c al0 al H1 locs1 cells slots lm C hN hP1 hD1 hS1 hl hc hs
theorem xa_putR {a idx : Nat} {ty : FieldType} (o : Option Nat) (ci kf : Nat) (hF : xa_FP M.1.cls idx ci kf ty) (hd : decode M.2.1 pc = .ok (.putfield idx, 3)) (ha : a ∈ L) (hk : xa_kd a = ci) (hr0 : xa_isR ci kf = true) (hn : ∀ o : Option Nat, narrow ty (va_rf o) = va_rf o) (hfit : ∀ o : Option Nat, fits ty (va_rf o) = true) (k : xa_W E M Z kc ks (pc + 3) ls st L hi (xa_upr hr a kf o)) : xa_W E M Z kc ks pc ls (va_rf o :: .ref a :: st) L hi hr := by
  intro p e s m args below meth c al0 al H locs cells slots lm C hN hP hD hS hl hc hs
  obtain ⟨Cn, T, N, ty0, h1, h2, h3, h4, h5, h6, h7, h8, h9⟩ := hF
  obtain ⟨q0, hq, hw⟩ := xa_get? (dA := E.2.2) (al := al) (hi := hi) (hr := hr) ha
  rw [xa_en_o hk (xa_ci h1)] at hw
  show W p E.1 e M.2.2.2.2 s m args below meth c H locs cells slots (Z.1 s args below al0) (F0 m pc lm (xa_cv al (va_rf o) :: .ref (al a) :: st.map (xa_cv al)))
  rw [xa_cv_rf]
  refine va_put C.1 C.2.1 (Ts := xa_G) C.2.2.2.2.2.1 h3 ty0 h6 h7 C.2.2.2.2.1 C.2.2.2.2.2.2.2.2.1.1 hP hD hS q0 hw h1 kf h4 (C.2.2.2.2.2.1 _ h5) (fun _ h => h) h8 h9 (hn _) (hfit _) (by rw [List.length_map, List.length_range, ← h2]; exact h4) hd (fun H1 locs1 hP1 hD1 hS1 => ?_)
  have e9 : (xa_wd E.2.2 al L hi hr).set q0 (al a, .inr (ci, ((List.range (xa_nT.getD ci 0)).map (xa_sv al hi hr a)).set kf (va_rf (o.map al)))) = xa_wd E.2.2 al L hi (xa_upr hr a kf o) := by
    refine xa_setw hD hq (fun b hb => xa_en_upr b hb) ?_
    rw [xa_en_o hk (xa_ci h1), xa_rng_set (by rw [← h2]; exact h4) _ (xa_sv al hi (xa_upr hr a kf o) a) _ (xa_sv_upr hk hr0) (fun j hj => xa_sv_uprn hj)]
  rw [e9] at hP1 hD1
  exact k p e s m args below meth c al0 al H1 locs1 cells slots lm C hN hP1 hD1 hS1 hl hc hs
theorem xa_putIF {a idx : Nat} {ty : FieldType} {x : Int32} (ci kf : Nat) (hF : xa_FF M.1.cls idx ci kf ty) (hd : decode M.2.1 pc = .ok (.putfield idx, 3)) (hini : M.1.name = "<init>") (ha : a ∈ L) (hk : xa_kd a = ci) (hr0 : xa_isR ci kf = false) (hn : narrow ty (.int x) = .int x) (hfit : fits ty (.int x) = true) (k : xa_W E M Z kc ks (pc + 3) ls st L (xa_up hi a kf x) hr) : xa_W E M Z kc ks pc ls (.int x :: .ref a :: st) L hi hr := by
  intro p e s m args below meth c al0 al H locs cells slots lm C hN hP hD hS hl hc hs
  obtain ⟨Cn, T, N, ty0, h1, h2, h3, h4, h5, h6, h7, h8, h9, h10⟩ := hF
  obtain ⟨q0, hq, hw⟩ := xa_get? (dA := E.2.2) (al := al) (hi := hi) (hr := hr) ha
  rw [xa_en_o hk (xa_ci h1)] at hw
  refine va_putF (v := .int x) C.1 C.2.1 (Ts := xa_G) C.2.2.2.2.2.1 h3 ty0 h6 h7 C.2.2.2.2.1 C.2.2.2.2.2.2.2.2.1.1 hP hD hS q0 hw h1 kf h4 (C.2.2.2.2.2.1 _ h5) (fun _ h => h) h8 (C.2.2.2.2.2.2.2.1.trans hini) h9 h10 hn hfit (by rw [List.length_map, List.length_range, ← h2]; exact h4) hd (fun H1 locs1 hP1 hD1 hS1 => ?_)
  have e9 : (xa_wd E.2.2 al L hi hr).set q0 (al a, .inr (ci, ((List.range (xa_nT.getD ci 0)).map (xa_sv al hi hr a)).set kf (.int x))) = xa_wd E.2.2 al L (xa_up hi a kf x) hr := by
    refine xa_setw hD hq (fun b hb => xa_en_up b hb) ?_
    rw [xa_en_o hk (xa_ci h1), xa_rng_set (by rw [← h2]; exact h4) _ (xa_sv al (xa_up hi a kf x) hr a) _ (xa_sv_up hk hr0) (fun j hj => xa_sv_upn hj)]
  rw [e9] at hP1 hD1
  exact k p e s m args below meth c al0 al H1 locs1 cells slots lm C hN hP1 hD1 hS1 hl hc hs
theorem xa_putRF {a idx : Nat} {ty : FieldType} (o : Option Nat) (ci kf : Nat) (hF : xa_FF M.1.cls idx ci kf ty) (hd : decode M.2.1 pc = .ok (.putfield idx, 3)) (hini : M.1.name = "<init>") (ha : a ∈ L) (hk : xa_kd a = ci) (hr0 : xa_isR ci kf = true) (hn : ∀ o : Option Nat, narrow ty (va_rf o) = va_rf o) (hfit : ∀ o : Option Nat, fits ty (va_rf o) = true) (k : xa_W E M Z kc ks (pc + 3) ls st L hi (xa_upr hr a kf o)) : xa_W E M Z kc ks pc ls (va_rf o :: .ref a :: st) L hi hr := by
  intro p e s m args below meth c al0 al H locs cells slots lm C hN hP hD hS hl hc hs
  obtain ⟨Cn, T, N, ty0, h1, h2, h3, h4, h5, h6, h7, h8, h9, h10⟩ := hF
  obtain ⟨q0, hq, hw⟩ := xa_get? (dA := E.2.2) (al := al) (hi := hi) (hr := hr) ha
  rw [xa_en_o hk (xa_ci h1)] at hw
  show W p E.1 e M.2.2.2.2 s m args below meth c H locs cells slots (Z.1 s args below al0) (F0 m pc lm (xa_cv al (va_rf o) :: .ref (al a) :: st.map (xa_cv al)))
  rw [xa_cv_rf]
  refine va_putF C.1 C.2.1 (Ts := xa_G) C.2.2.2.2.2.1 h3 ty0 h6 h7 C.2.2.2.2.1 C.2.2.2.2.2.2.2.2.1.1 hP hD hS q0 hw h1 kf h4 (C.2.2.2.2.2.1 _ h5) (fun _ h => h) h8 (C.2.2.2.2.2.2.2.1.trans hini) h9 h10 (hn _) (hfit _) (by rw [List.length_map, List.length_range, ← h2]; exact h4) hd (fun H1 locs1 hP1 hD1 hS1 => ?_)
  have e9 : (xa_wd E.2.2 al L hi hr).set q0 (al a, .inr (ci, ((List.range (xa_nT.getD ci 0)).map (xa_sv al hi hr a)).set kf (va_rf (o.map al)))) = xa_wd E.2.2 al L hi (xa_upr hr a kf o) := by
    refine xa_setw hD hq (fun b hb => xa_en_upr b hb) ?_
    rw [xa_en_o hk (xa_ci h1), xa_rng_set (by rw [← h2]; exact h4) _ (xa_sv al hi (xa_upr hr a kf o) a) _ (xa_sv_upr hk hr0) (fun j hj => xa_sv_uprn hj)]
  rw [e9] at hP1 hD1
  exact k p e s m args below meth c al0 al H1 locs1 cells slots lm C hN hP1 hD1 hS1 hl hc hs
theorem xa_iald {a : Nat} {i : Int32} (hd : decode M.2.1 pc = .ok (.iaload, 1)) (ha : a ∈ L) (hk : xa_kd a = 9) (hin : vp_in i (xa_ln a)) (k : xa_W E M Z kc ks (pc + 1) ls (.int (hi a i.toNatClampNeg) :: st) L hi hr) : xa_W E M Z kc ks pc ls (.int i :: .ref a :: st) L hi hr := by
  intro p e s m args below meth c al0 al H locs cells slots lm C hN hP hD hS hl hc hs
  obtain ⟨q0, hq, hw⟩ := xa_get? (dA := E.2.2) (al := al) (hi := hi) (hr := hr) ha
  rw [xa_en_i hk] at hw
  exact va_iald C.1 C.2.1 C.2.2.2.2.2.2.2.2.1.1 hP q0 0 hw rfl hin hd (k p e s m args below meth c al0 al H locs cells slots lm C hN hP hD hS hl hc hs)
theorem xa_zald {a : Nat} {i : Int32} (hd : decode M.2.1 pc = .ok (.baload, 1)) (ha : a ∈ L) (hk : xa_kd a = 10) (hin : vp_in i (xa_ln a)) (k : xa_W E M Z kc ks (pc + 1) ls (.int (hi a i.toNatClampNeg) :: st) L hi hr) : xa_W E M Z kc ks pc ls (.int i :: .ref a :: st) L hi hr := by
  intro p e s m args below meth c al0 al H locs cells slots lm C hN hP hD hS hl hc hs
  obtain ⟨q0, hq, hw⟩ := xa_get? (dA := E.2.2) (al := al) (hi := hi) (hr := hr) ha
  rw [xa_en_z hk] at hw
  exact va_zald C.1 C.2.1 C.2.2.2.2.2.2.2.2.1.1 hP q0 1 hw rfl hin hd (k p e s m args below meth c al0 al H locs cells slots lm C hN hP hD hS hl hc hs)
theorem xa_up_arr (a j : Nat) (x : Int32) : xa_up hi a j x a = upd (hi a) j x := by
  funext y; simp [xa_up, upd]
theorem xa_iast {a : Nat} {i x : Int32} (hd : decode M.2.1 pc = .ok (.iastore, 1)) (ha : a ∈ L) (hk : xa_kd a = 9) (hin : vp_in i (xa_ln a)) (k : xa_W E M Z kc ks (pc + 1) ls st L (xa_up hi a i.toNatClampNeg x) hr) : xa_W E M Z kc ks pc ls (.int x :: .int i :: .ref a :: st) L hi hr := by
  intro p e s m args below meth c al0 al H locs cells slots lm C hN hP hD hS hl hc hs
  obtain ⟨q0, hq, hw⟩ := xa_get? (dA := E.2.2) (al := al) (hi := hi) (hr := hr) ha
  rw [xa_en_i hk] at hw
  refine va_iast C.1 C.2.1 C.2.2.2.2.2.2.2.2.1.1 hP hD hS q0 0 hw rfl hin hd (fun H1 locs1 hP1 hD1 hS1 => ?_)
  rw [xa_setw (hi' := xa_up hi a i.toNatClampNeg x) (hr' := hr) hD hq (fun b hb => xa_en_up b hb) (by rw [xa_en_i hk, xa_up_arr])] at hP1 hD1
  exact k p e s m args below meth c al0 al H1 locs1 cells slots lm C hN hP1 hD1 hS1 hl hc hs
theorem xa_zast {a : Nat} {i x : Int32} (hd : decode M.2.1 pc = .ok (.bastore, 1)) (ha : a ∈ L) (hk : xa_kd a = 10) (hin : vp_in i (xa_ln a)) (hx : vp_nar .boolean x = x) (k : xa_W E M Z kc ks (pc + 1) ls st L (xa_up hi a i.toNatClampNeg x) hr) : xa_W E M Z kc ks pc ls (.int x :: .int i :: .ref a :: st) L hi hr := by
  intro p e s m args below meth c al0 al H locs cells slots lm C hN hP hD hS hl hc hs
  obtain ⟨q0, hq, hw⟩ := xa_get? (dA := E.2.2) (al := al) (hi := hi) (hr := hr) ha
  rw [xa_en_z hk] at hw
  refine va_zast C.1 C.2.1 C.2.2.2.2.2.2.2.2.1.1 hP hD hS q0 1 hw rfl hin hd (fun H1 locs1 hP1 hD1 hS1 => ?_)
  rw [hx, xa_setw (hi' := xa_up hi a i.toNatClampNeg x) (hr' := hr) hD hq (fun b hb => xa_en_up b hb) (by rw [xa_en_z hk, xa_up_arr])] at hP1 hD1
  exact k p e s m args below meth c al0 al H1 locs1 cells slots lm C hN hP1 hD1 hS1 hl hc hs
theorem xa_aald_h {a : Nat} {i : Int32} (o : Option Nat) (hd : decode M.2.1 pc = .ok (.aaload, 1)) (ha : a ∈ L) (hk : xa_kd a = 11) (hin : vp_in i (xa_ln a)) (ho : hr a i.toNatClampNeg = o) (k : xa_W E M Z kc ks (pc + 1) ls (va_rf o :: st) L hi hr) : xa_W E M Z kc ks pc ls (.int i :: .ref a :: st) L hi hr := by
  intro p e s m args below meth c al0 al H locs cells slots lm C hN hP hD hS hl hc hs
  obtain ⟨q0, hq, hw⟩ := xa_get? (dA := E.2.2) (al := al) (hi := hi) (hr := hr) ha
  rw [xa_en_r hk (by decide)] at hw
  have k2 := k p e s m args below meth c al0 al H locs cells slots lm C hN hP hD hS hl hc hs
  have e : (va_rf o :: st).map (xa_cv al) = va_rf ((hr a i.toNatClampNeg).map al) :: st.map (xa_cv al) := by rw [List.map_cons, xa_cv_rf, ho]
  rw [e] at k2
  exact va_aldq C.1 C.2.1 C.2.2.2.2.2.2.2.2.1.1 hP q0 2 hw rfl hin hd k2
theorem xa_aast_h {a b : Nat} {i : Int32} (hd : decode M.2.1 pc = .ok (.aastore, 1)) (ha : a ∈ L) (hk : xa_kd a = 11) (hb : b ∈ L) (hkb : xa_kd b = 3) (hin : vp_in i (xa_ln a)) (k : xa_W E M Z kc ks (pc + 1) ls st L hi (xa_upr hr a i.toNatClampNeg (some b))) : xa_W E M Z kc ks pc ls (.ref b :: .int i :: .ref a :: st) L hi hr := by
  intro p e s m args below meth c al0 al H locs cells slots lm C hN hP hD hS hl hc hs
  obtain ⟨q0, hq, hw⟩ := xa_get? (dA := E.2.2) (al := al) (hi := hi) (hr := hr) ha
  rw [xa_en_r hk (by decide)] at hw
  obtain ⟨q1, hq1, hw1⟩ := xa_get? (dA := E.2.2) (al := al) (hi := hi) (hr := hr) hb
  rw [xa_en_o hkb (by decide)] at hw1
  refine va_astq C.1 C.2.1 C.2.2.2.2.2.2.2.2.1.1 hP hD hS q0 2 q1 3 hw rfl hw1 rfl hin hd (fun H1 locs1 hP1 hD1 hS1 => ?_)
  have e0 : (fun j => ((xa_upr hr a i.toNatClampNeg (some b)) a j).map al) = va_up (fun j => (hr a j).map al) i.toNatClampNeg (some (al b)) := by
    funext j
    by_cases hj : j = i.toNatClampNeg
    · subst hj; simp [xa_upr, va_up]
    · simp [xa_upr, va_up, hj]
  rw [xa_setw (hi' := hi) (hr' := xa_upr hr a i.toNatClampNeg (some b)) hD hq (fun b hb => xa_en_upr b hb) (by rw [xa_en_r hk (by decide), e0])] at hP1 hD1
  exact k p e s m args below meth c al0 al H1 locs1 cells slots lm C hN hP1 hD1 hS1 hl hc hs
theorem xa_aald_s {a : Nat} {i : Int32} (o : Option Nat) (hd : decode M.2.1 pc = .ok (.aaload, 1)) (ha : a ∈ L) (hk : xa_kd a = 12) (hin : vp_in i (xa_ln a)) (ho : hr a i.toNatClampNeg = o) (k : xa_W E M Z kc ks (pc + 1) ls (va_rf o :: st) L hi hr) : xa_W E M Z kc ks pc ls (.int i :: .ref a :: st) L hi hr := by
  intro p e s m args below meth c al0 al H locs cells slots lm C hN hP hD hS hl hc hs
  obtain ⟨q0, hq, hw⟩ := xa_get? (dA := E.2.2) (al := al) (hi := hi) (hr := hr) ha
  rw [xa_en_r hk (by decide)] at hw
  have k2 := k p e s m args below meth c al0 al H locs cells slots lm C hN hP hD hS hl hc hs
  have e : (va_rf o :: st).map (xa_cv al) = va_rf ((hr a i.toNatClampNeg).map al) :: st.map (xa_cv al) := by rw [List.map_cons, xa_cv_rf, ho]
  rw [e] at k2
  exact va_aldq C.1 C.2.1 C.2.2.2.2.2.2.2.2.1.1 hP q0 3 hw rfl hin hd k2
theorem xa_aast_s {a b : Nat} {i : Int32} (hd : decode M.2.1 pc = .ok (.aastore, 1)) (ha : a ∈ L) (hk : xa_kd a = 12) (hb : b ∈ L) (hkb : xa_kd b = 5) (hin : vp_in i (xa_ln a)) (k : xa_W E M Z kc ks (pc + 1) ls st L hi (xa_upr hr a i.toNatClampNeg (some b))) : xa_W E M Z kc ks pc ls (.ref b :: .int i :: .ref a :: st) L hi hr := by
  intro p e s m args below meth c al0 al H locs cells slots lm C hN hP hD hS hl hc hs
  obtain ⟨q0, hq, hw⟩ := xa_get? (dA := E.2.2) (al := al) (hi := hi) (hr := hr) ha
  rw [xa_en_r hk (by decide)] at hw
  obtain ⟨q1, hq1, hw1⟩ := xa_get? (dA := E.2.2) (al := al) (hi := hi) (hr := hr) hb
  rw [xa_en_o hkb (by decide)] at hw1
  refine va_astq C.1 C.2.1 C.2.2.2.2.2.2.2.2.1.1 hP hD hS q0 3 q1 5 hw rfl hw1 rfl hin hd (fun H1 locs1 hP1 hD1 hS1 => ?_)
  have e0 : (fun j => ((xa_upr hr a i.toNatClampNeg (some b)) a j).map al) = va_up (fun j => (hr a j).map al) i.toNatClampNeg (some (al b)) := by
    funext j
    by_cases hj : j = i.toNatClampNeg
    · subst hj; simp [xa_upr, va_up]
    · simp [xa_upr, va_up, hj]
  rw [xa_setw (hi' := hi) (hr' := xa_upr hr a i.toNatClampNeg (some b)) hD hq (fun b hb => xa_en_upr b hb) (by rw [xa_en_r hk (by decide), e0])] at hP1 hD1
  exact k p e s m args below meth c al0 al H1 locs1 cells slots lm C hN hP1 hD1 hS1 hl hc hs
theorem xa_objInit {a idx : Nat} (hd : decode M.2.1 pc = .ok (.invokespecial idx, 3)) (h1 : Cond.methodLink M.1.cls idx objectInit ∈ xa_G) (h2 : Cond.instanceMethod objectInit ∈ xa_G) (h3 : Cond.code objectInit ⟨#[0xb1]⟩ 1 none ∈ xa_G) (hf : 1 ≤ M.2.2.2.2.frames) (hlo : (st.map fun v => v.category).sum + 12 ≤ M.2.2.2.2.locals) (k : xa_W E M Z kc ks (pc + 3) ls st L hi hr) : xa_W E M Z kc ks pc ls (.ref a :: st) L hi hr := by
  intro p e s m args below meth c al0 al H locs cells slots lm C hN hP hD hS hl hc hs
  obtain ⟨lv, g1, g2, g3⟩ := id hl
  have hm : ((st.map (xa_cv al)).map fun v => v.category) = (st.map fun v => v.category) := by
    rw [List.map_map]
    exact List.map_congr_left (fun v _ => xa_cv_cat al v)
  refine W.objInit C.1 C.2.1 C.2.2.2.2.1 (C.2.2.2.2.2.1 _ h1) (C.2.2.2.2.2.1 _ h2) (C.2.2.2.2.2.1 _ h3) rfl (g1.1.trans C.2.2.2.1.symm) rfl hd hf (by show 2 * 0 + _ + 12 ≤ _; rw [hm]; omega) ?_
  exact W.eq (g2 := F0 m (pc + 3) lm (st.map (xa_cv al))) rfl (k p e s m args below meth c al0 al H locs cells slots lm C hN hP hD hS hl hc hs)
end XA4
