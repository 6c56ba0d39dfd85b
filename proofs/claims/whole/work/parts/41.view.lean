/-! views: what an int is as an integer; branches that speak of integers -/
def VZ (x : Int32) (z : Int) : Prop := x.toInt = z
theorem vN {n : Nat} (h : n < 2147483648) : VZ (nI n) (n : Int) := nI_toInt h
theorem vZ {z : Int} (h : -2147483648 ≤ z ∧ z < 2147483648) : VZ (iI z) z := iI_toInt h.1 h.2
theorem vX (x : Int32) : VZ x x.toInt := rfl
theorem vB (b : Bool) : VZ (b2i b) (if b = true then 1 else 0) := by cases b <;> rfl
theorem x_rg (x : Int32) : -2147483648 ≤ x.toInt ∧ x.toInt < 2147483648 := ⟨Int32.le_toInt x, Int32.toInt_lt x⟩
theorem vz_n {i : Int32} {k : Nat} (h : VZ i (k : Int)) (hk : k < 2147483648) : i = nI k := Int32.toInt_inj.mp (h.trans (nI_toInt hk).symm)
theorem vz_i {x : Int32} {z : Int} (h : VZ x z) : x = iI z := by
  have := x_rg x
  have e : x.toInt = z := h
  exact Int32.toInt_inj.mp (e.trans (iI_toInt (by omega) (by omega)).symm)
theorem x_iI (x : Int32) : iI x.toInt = x := (vz_i (vX x)).symm
theorem eZN {z : Int} {n : Nat} (h : z = (n : Int)) : iI z = nI n := by rw [h, nI_iI]
theorem v0 : VZ (0 : Int32) 0 := rfl
section VIEW
variable {G : Gt} {l : Launch} {μ : Mi} {d bc bs pc : Nat} {lv : List (Nat × Value)} {st : List Value} {Z : Zt} {R : Rt} {I : It} {L : Lt} {post : Pt'}
theorem vr_eq {x y : Int32} {a b : Int} (ha : VZ x a) (hb : VZ y b) : (x = y) ↔ (a = b) := by
  have ha' : x.toInt = a := ha
  have hb' : y.toInt = b := hb
  rw [← ha', ← hb']
  exact (Int32.toInt_inj (x := x) (y := y)).symm
theorem vr_ne {x y : Int32} {a b : Int} (ha : VZ x a) (hb : VZ y b) : (¬ x = y) ↔ (¬ a = b) := by
  have ha' : x.toInt = a := ha
  have hb' : y.toInt = b := hb
  rw [← ha', ← hb']
  exact not_congr (Int32.toInt_inj (x := x) (y := y)).symm
theorem vr_lt {x y : Int32} {a b : Int} (ha : VZ x a) (hb : VZ y b) : (x < y) ↔ (a < b) := by
  have ha' : x.toInt = a := ha
  have hb' : y.toInt = b := hb
  rw [← ha', ← hb']
  exact Int32.lt_iff_toInt_lt (x := x) (y := y)
theorem vr_ge {x y : Int32} {a b : Int} (ha : VZ x a) (hb : VZ y b) : (y ≤ x) ↔ (b ≤ a) := by
  have ha' : x.toInt = a := ha
  have hb' : y.toInt = b := hb
  rw [← ha', ← hb']
  exact Int32.le_iff_toInt_le (x := y) (y := x)
theorem vr_gt {x y : Int32} {a b : Int} (ha : VZ x a) (hb : VZ y b) : (y < x) ↔ (b < a) := by
  have ha' : x.toInt = a := ha
  have hb' : y.toInt = b := hb
  rw [← ha', ← hb']
  exact Int32.lt_iff_toInt_lt (x := y) (y := x)
theorem vr_le {x y : Int32} {a b : Int} (ha : VZ x a) (hb : VZ y b) : (x ≤ y) ↔ (a ≤ b) := by
  have ha' : x.toInt = a := ha
  have hb' : y.toInt = b := hb
  rw [← ha', ← hb']
  exact Int32.le_iff_toInt_le (x := x) (y := y)
theorem Sx.icmp_eqV {x y : Int32} {a b : Int} {o : Int} {t : Nat} (hd : decode μ.2.1 pc = .ok (.if_icmp .eq o, 3)) (ht : (pc : Int) + o = (t : Int)) (ha : VZ x a) (hb : VZ y b) (kt : (a = b) → Sx G l μ d bc bs t lv st Z R I L post) (kf : (¬ (a = b)) → Sx G l μ d bc bs (pc + 3) lv st Z R I L post) : Sx G l μ d bc bs pc lv (.int y :: .int x :: st) Z R I L post :=
  Sx.icmp_eq hd ht (fun q => kt ((vr_eq ha hb).mp q)) (fun q => kf (fun z => q ((vr_eq ha hb).mpr z)))
theorem Sx.if_eqV {x : Int32} {a : Int} {o : Int} {t : Nat} (hd : decode μ.2.1 pc = .ok (.ifCond .eq o, 3)) (ht : (pc : Int) + o = (t : Int)) (ha : VZ x a) (kt : (a = 0) → Sx G l μ d bc bs t lv st Z R I L post) (kf : (¬ (a = 0)) → Sx G l μ d bc bs (pc + 3) lv st Z R I L post) : Sx G l μ d bc bs pc lv (.int x :: st) Z R I L post :=
  Sx.if_eq hd ht (fun q => kt ((vr_eq ha v0).mp q)) (fun q => kf (fun z => q ((vr_eq ha v0).mpr z)))
theorem Sx.icmp_neV {x y : Int32} {a b : Int} {o : Int} {t : Nat} (hd : decode μ.2.1 pc = .ok (.if_icmp .ne o, 3)) (ht : (pc : Int) + o = (t : Int)) (ha : VZ x a) (hb : VZ y b) (kt : (¬ a = b) → Sx G l μ d bc bs t lv st Z R I L post) (kf : (a = b) → Sx G l μ d bc bs (pc + 3) lv st Z R I L post) : Sx G l μ d bc bs pc lv (.int y :: .int x :: st) Z R I L post :=
  Sx.icmp_ne hd ht (fun q => kt ((vr_ne ha hb).mp q)) (fun q => kf ((vr_eq ha hb).mp q))
theorem Sx.if_neV {x : Int32} {a : Int} {o : Int} {t : Nat} (hd : decode μ.2.1 pc = .ok (.ifCond .ne o, 3)) (ht : (pc : Int) + o = (t : Int)) (ha : VZ x a) (kt : (¬ a = 0) → Sx G l μ d bc bs t lv st Z R I L post) (kf : (a = 0) → Sx G l μ d bc bs (pc + 3) lv st Z R I L post) : Sx G l μ d bc bs pc lv (.int x :: st) Z R I L post :=
  Sx.if_ne hd ht (fun q => kt ((vr_ne ha v0).mp q)) (fun q => kf ((vr_eq ha v0).mp q))
theorem Sx.icmp_ltV {x y : Int32} {a b : Int} {o : Int} {t : Nat} (hd : decode μ.2.1 pc = .ok (.if_icmp .lt o, 3)) (ht : (pc : Int) + o = (t : Int)) (ha : VZ x a) (hb : VZ y b) (kt : (a < b) → Sx G l μ d bc bs t lv st Z R I L post) (kf : (¬ (a < b)) → Sx G l μ d bc bs (pc + 3) lv st Z R I L post) : Sx G l μ d bc bs pc lv (.int y :: .int x :: st) Z R I L post :=
  Sx.icmp_lt hd ht (fun q => kt ((vr_lt ha hb).mp q)) (fun q => kf (fun z => q ((vr_lt ha hb).mpr z)))
theorem Sx.if_ltV {x : Int32} {a : Int} {o : Int} {t : Nat} (hd : decode μ.2.1 pc = .ok (.ifCond .lt o, 3)) (ht : (pc : Int) + o = (t : Int)) (ha : VZ x a) (kt : (a < 0) → Sx G l μ d bc bs t lv st Z R I L post) (kf : (¬ (a < 0)) → Sx G l μ d bc bs (pc + 3) lv st Z R I L post) : Sx G l μ d bc bs pc lv (.int x :: st) Z R I L post :=
  Sx.if_lt hd ht (fun q => kt ((vr_lt ha v0).mp q)) (fun q => kf (fun z => q ((vr_lt ha v0).mpr z)))
theorem Sx.icmp_geV {x y : Int32} {a b : Int} {o : Int} {t : Nat} (hd : decode μ.2.1 pc = .ok (.if_icmp .ge o, 3)) (ht : (pc : Int) + o = (t : Int)) (ha : VZ x a) (hb : VZ y b) (kt : (b ≤ a) → Sx G l μ d bc bs t lv st Z R I L post) (kf : (¬ (b ≤ a)) → Sx G l μ d bc bs (pc + 3) lv st Z R I L post) : Sx G l μ d bc bs pc lv (.int y :: .int x :: st) Z R I L post :=
  Sx.icmp_ge hd ht (fun q => kt ((vr_ge ha hb).mp q)) (fun q => kf (fun z => q ((vr_ge ha hb).mpr z)))
theorem Sx.if_geV {x : Int32} {a : Int} {o : Int} {t : Nat} (hd : decode μ.2.1 pc = .ok (.ifCond .ge o, 3)) (ht : (pc : Int) + o = (t : Int)) (ha : VZ x a) (kt : (0 ≤ a) → Sx G l μ d bc bs t lv st Z R I L post) (kf : (¬ (0 ≤ a)) → Sx G l μ d bc bs (pc + 3) lv st Z R I L post) : Sx G l μ d bc bs pc lv (.int x :: st) Z R I L post :=
  Sx.if_ge hd ht (fun q => kt ((vr_ge ha v0).mp q)) (fun q => kf (fun z => q ((vr_ge ha v0).mpr z)))
theorem Sx.icmp_gtV {x y : Int32} {a b : Int} {o : Int} {t : Nat} (hd : decode μ.2.1 pc = .ok (.if_icmp .gt o, 3)) (ht : (pc : Int) + o = (t : Int)) (ha : VZ x a) (hb : VZ y b) (kt : (b < a) → Sx G l μ d bc bs t lv st Z R I L post) (kf : (¬ (b < a)) → Sx G l μ d bc bs (pc + 3) lv st Z R I L post) : Sx G l μ d bc bs pc lv (.int y :: .int x :: st) Z R I L post :=
  Sx.icmp_gt hd ht (fun q => kt ((vr_gt ha hb).mp q)) (fun q => kf (fun z => q ((vr_gt ha hb).mpr z)))
theorem Sx.if_gtV {x : Int32} {a : Int} {o : Int} {t : Nat} (hd : decode μ.2.1 pc = .ok (.ifCond .gt o, 3)) (ht : (pc : Int) + o = (t : Int)) (ha : VZ x a) (kt : (0 < a) → Sx G l μ d bc bs t lv st Z R I L post) (kf : (¬ (0 < a)) → Sx G l μ d bc bs (pc + 3) lv st Z R I L post) : Sx G l μ d bc bs pc lv (.int x :: st) Z R I L post :=
  Sx.if_gt hd ht (fun q => kt ((vr_gt ha v0).mp q)) (fun q => kf (fun z => q ((vr_gt ha v0).mpr z)))
theorem Sx.icmp_leV {x y : Int32} {a b : Int} {o : Int} {t : Nat} (hd : decode μ.2.1 pc = .ok (.if_icmp .le o, 3)) (ht : (pc : Int) + o = (t : Int)) (ha : VZ x a) (hb : VZ y b) (kt : (a ≤ b) → Sx G l μ d bc bs t lv st Z R I L post) (kf : (¬ (a ≤ b)) → Sx G l μ d bc bs (pc + 3) lv st Z R I L post) : Sx G l μ d bc bs pc lv (.int y :: .int x :: st) Z R I L post :=
  Sx.icmp_le hd ht (fun q => kt ((vr_le ha hb).mp q)) (fun q => kf (fun z => q ((vr_le ha hb).mpr z)))
theorem Sx.if_leV {x : Int32} {a : Int} {o : Int} {t : Nat} (hd : decode μ.2.1 pc = .ok (.ifCond .le o, 3)) (ht : (pc : Int) + o = (t : Int)) (ha : VZ x a) (kt : (a ≤ 0) → Sx G l μ d bc bs t lv st Z R I L post) (kf : (¬ (a ≤ 0)) → Sx G l μ d bc bs (pc + 3) lv st Z R I L post) : Sx G l μ d bc bs pc lv (.int x :: st) Z R I L post :=
  Sx.if_le hd ht (fun q => kt ((vr_le ha v0).mp q)) (fun q => kf (fun z => q ((vr_le ha v0).mpr z)))
theorem Sx.if_eqB {b : Bool} {o : Int} {t : Nat} (hd : decode μ.2.1 pc = .ok (.ifCond .eq o, 3)) (ht : (pc : Int) + o = (t : Int)) (kt : b = false → Sx G l μ d bc bs t lv st Z R I L post) (kf : b = true → Sx G l μ d bc bs (pc + 3) lv st Z R I L post) : Sx G l μ d bc bs pc lv (.int (b2i b) :: st) Z R I L post :=
  Sx.if_eq hd ht (fun q => kt (b2i_0.mp q)) (fun q => kf (b2i_ne.mp q))
theorem Sx.if_neB {b : Bool} {o : Int} {t : Nat} (hd : decode μ.2.1 pc = .ok (.ifCond .ne o, 3)) (ht : (pc : Int) + o = (t : Int)) (kt : b = true → Sx G l μ d bc bs t lv st Z R I L post) (kf : b = false → Sx G l μ d bc bs (pc + 3) lv st Z R I L post) : Sx G l μ d bc bs pc lv (.int (b2i b) :: st) Z R I L post :=
  Sx.if_ne hd ht (fun q => kt (b2i_ne.mp q)) (fun q => kf (b2i_0.mp q))
theorem Sx.if_eqD {b : Prop} [Decidable b] {o : Int} {t : Nat} (hd : decode μ.2.1 pc = .ok (.ifCond .eq o, 3)) (ht : (pc : Int) + o = (t : Int)) (kt : ¬ b → Sx G l μ d bc bs t lv st Z R I L post) (kf : b → Sx G l μ d bc bs (pc + 3) lv st Z R I L post) : Sx G l μ d bc bs pc lv (.int (b2i (decide b)) :: st) Z R I L post :=
  Sx.if_eqB hd ht (fun q => kt (of_decide_eq_false q)) (fun q => kf (of_decide_eq_true q))
theorem Sx.if_neD {b : Prop} [Decidable b] {o : Int} {t : Nat} (hd : decode μ.2.1 pc = .ok (.ifCond .ne o, 3)) (ht : (pc : Int) + o = (t : Int)) (kt : b → Sx G l μ d bc bs t lv st Z R I L post) (kf : ¬ b → Sx G l μ d bc bs (pc + 3) lv st Z R I L post) : Sx G l μ d bc bs pc lv (.int (b2i (decide b)) :: st) Z R I L post :=
  Sx.if_neB hd ht (fun q => kt (of_decide_eq_true q)) (fun q => kf (of_decide_eq_false q))
/-- what is on the stack, by another name -/
theorem Sx.top {x y : Int32} (e : x = y) (k : Sx G l μ d bc bs pc lv (.int y :: st) Z R I L post) : Sx G l μ d bc bs pc lv (.int x :: st) Z R I L post := e ▸ k
theorem Sx.topL {x y : Int64} (e : x = y) (k : Sx G l μ d bc bs pc lv (.long y :: st) Z R I L post) : Sx G l μ d bc bs pc lv (.long x :: st) Z R I L post := e ▸ k
theorem Sx.iaddN {x y : Nat} (hd : decode μ.2.1 pc = .ok (.iadd, 1)) (k : Sx G l μ d bc bs (pc + 1) lv (.int (nI (x + y)) :: st) Z R I L post) : Sx G l μ d bc bs pc lv (.int (nI y) :: .int (nI x) :: st) Z R I L post := Sx.iadd hd (Sx.top (nI_add x y) k)
theorem Sx.isubN {x y : Nat} (hd : decode μ.2.1 pc = .ok (.isub, 1)) (h : y ≤ x) (k : Sx G l μ d bc bs (pc + 1) lv (.int (nI (x - y)) :: st) Z R I L post) : Sx G l μ d bc bs pc lv (.int (nI y) :: .int (nI x) :: st) Z R I L post := Sx.isub hd (Sx.top (pk_sub h) k)
theorem Sx.isubNZ {x y : Nat} (hd : decode μ.2.1 pc = .ok (.isub, 1)) (k : Sx G l μ d bc bs (pc + 1) lv (.int (iI ((x : Int) - (y : Int))) :: st) Z R I L post) : Sx G l μ d bc bs pc lv (.int (nI y) :: .int (nI x) :: st) Z R I L post := Sx.isub hd (Sx.top (by rw [nI_iI, nI_iI, iI_sub]) k)
theorem Sx.imulN {x y : Nat} (hd : decode μ.2.1 pc = .ok (.imul, 1)) (k : Sx G l μ d bc bs (pc + 1) lv (.int (nI (x * y)) :: st) Z R I L post) : Sx G l μ d bc bs pc lv (.int (nI y) :: .int (nI x) :: st) Z R I L post := Sx.imul hd (Sx.top (pk_mul x y) k)
/-- .. of integers, by their views -/
theorem vz_ok {x : Int32} {z : Int} (h : VZ x z) : -2147483648 ≤ z ∧ z < 2147483648 := by have := x_rg x; have e : x.toInt = z := h; omega
theorem Sx.iaddV {x y : Int32} {a b : Int} (hd : decode μ.2.1 pc = .ok (.iadd, 1)) (ha : VZ x a) (hb : VZ y b) (k : Sx G l μ d bc bs (pc + 1) lv (.int (iI (a + b)) :: st) Z R I L post) : Sx G l μ d bc bs pc lv (.int y :: .int x :: st) Z R I L post := Sx.iadd hd (Sx.top (by rw [vz_i ha, vz_i hb, iI_add]) k)
theorem Sx.isubV {x y : Int32} {a b : Int} (hd : decode μ.2.1 pc = .ok (.isub, 1)) (ha : VZ x a) (hb : VZ y b) (k : Sx G l μ d bc bs (pc + 1) lv (.int (iI (a - b)) :: st) Z R I L post) : Sx G l μ d bc bs pc lv (.int y :: .int x :: st) Z R I L post := Sx.isub hd (Sx.top (by rw [vz_i ha, vz_i hb, iI_sub]) k)
theorem Sx.imulV {x y : Int32} {a b : Int} (hd : decode μ.2.1 pc = .ok (.imul, 1)) (ha : VZ x a) (hb : VZ y b) (k : Sx G l μ d bc bs (pc + 1) lv (.int (iI (a * b)) :: st) Z R I L post) : Sx G l μ d bc bs pc lv (.int y :: .int x :: st) Z R I L post := Sx.imul hd (Sx.top (by rw [vz_i ha, vz_i hb, iI_mul]) k)
theorem iI_neg (a : Int) : -(iI a) = iI (-a) := (Int32.ofInt_neg a).symm
theorem Sx.inegV {x : Int32} {a : Int} (hd : decode μ.2.1 pc = .ok (.ineg, 1)) (ha : VZ x a) (k : Sx G l μ d bc bs (pc + 1) lv (.int (iI (-a)) :: st) Z R I L post) : Sx G l μ d bc bs pc lv (.int x :: st) Z R I L post := Sx.ineg hd (Sx.top (by rw [vz_i ha, iI_neg]) k)
theorem Sx.iorN {x y : Nat} (hd : decode μ.2.1 pc = .ok (.ior, 1)) (k : Sx G l μ d bc bs (pc + 1) lv (.int (nI (x ||| y)) :: st) Z R I L post) : Sx G l μ d bc bs pc lv (.int (nI y) :: .int (nI x) :: st) Z R I L post := Sx.ior hd (Sx.top (n_or x y) k)
theorem Sx.iandN {x y : Nat} (hd : decode μ.2.1 pc = .ok (.iand, 1)) (k : Sx G l μ d bc bs (pc + 1) lv (.int (nI (x &&& y)) :: st) Z R I L post) : Sx G l μ d bc bs pc lv (.int (nI y) :: .int (nI x) :: st) Z R I L post := Sx.iand hd (Sx.top (n_andN x y) k)
theorem Sx.ixorN {x y : Nat} (hd : decode μ.2.1 pc = .ok (.ixor, 1)) (k : Sx G l μ d bc bs (pc + 1) lv (.int (nI (x ^^^ y)) :: st) Z R I L post) : Sx G l μ d bc bs pc lv (.int (nI y) :: .int (nI x) :: st) Z R I L post := Sx.ixor hd (Sx.top (n_xor x y) k)
theorem Sx.iand1 {x : Nat} (hd : decode μ.2.1 pc = .ok (.iand, 1)) (h : x < 4294967296) (k : Sx G l μ d bc bs (pc + 1) lv (.int (nI (x % 2)) :: st) Z R I L post) : Sx G l μ d bc bs pc lv (.int (nI 1) :: .int (nI x) :: st) Z R I L post := Sx.iand hd (Sx.top (n_and1 h) k)
theorem Sx.iand255 {x : Nat} (hd : decode μ.2.1 pc = .ok (.iand, 1)) (h : x < 4294967296) (k : Sx G l μ d bc bs (pc + 1) lv (.int (nI (x % 256)) :: st) Z R I L post) : Sx G l μ d bc bs pc lv (.int (nI 255) :: .int (nI x) :: st) Z R I L post := Sx.iand hd (Sx.top (n_and255 h) k)
theorem Sx.ishrN {x p : Nat} (hd : decode μ.2.1 pc = .ok (.ishr, 1)) (hx : x < 2147483648) (hp : p < 32) (k : Sx G l μ d bc bs (pc + 1) lv (.int (nI (x / 2 ^ p)) :: st) Z R I L post) : Sx G l μ d bc bs pc lv (.int (nI p) :: .int (nI x) :: st) Z R I L post := Sx.ishr hd (Sx.top (n_shr hx hp) k)
theorem Sx.ishl1 {p : Nat} (hd : decode μ.2.1 pc = .ok (.ishl, 1)) (hp : p < 31) (k : Sx G l μ d bc bs (pc + 1) lv (.int (nI (2 ^ p)) :: st) Z R I L post) : Sx G l μ d bc bs pc lv (.int (nI p) :: .int (nI 1) :: st) Z R I L post := Sx.ishl hd (Sx.top (n_p2 hp) k)
theorem Sx.ishlN {x p : Nat} (hd : decode μ.2.1 pc = .ok (.ishl, 1)) (hp : p < 32) (h : x * 2 ^ p < 4294967296) (k : Sx G l μ d bc bs (pc + 1) lv (.int (nI (x * 2 ^ p)) :: st) Z R I L post) : Sx G l μ d bc bs pc lv (.int (nI p) :: .int (nI x) :: st) Z R I L post := Sx.ishl hd (Sx.top (n_shl hp h) k)
theorem n_div {a b : Nat} (ha : a < 2147483648) (hb : b < 2147483648) : nI a / nI b = nI (a / b) := by
  apply Int32.toInt_inj.mp
  have hne : nI b ≠ -1 := by
    intro q
    have q2 := congrArg Int32.toInt q
    rw [nI_toInt hb, show (-1 : Int32).toInt = -1 by decide] at q2
    omega
  rw [Int32.toInt_div_of_ne_right _ _ hne, nI_toInt ha, nI_toInt hb, nI_toInt (Nat.lt_of_le_of_lt (Nat.div_le_self a b) ha)]
  rfl
theorem Sx.idivN {x y : Nat} (hd : decode μ.2.1 pc = .ok (.idiv, 1)) (hx : x < 2147483648) (h0 : 0 < y) (hy : y < 2147483648) (k : Sx G l μ d bc bs (pc + 1) lv (.int (nI (x / y)) :: st) Z R I L post) : Sx G l μ d bc bs pc lv (.int (nI y) :: .int (nI x) :: st) Z R I L post := Sx.idiv hd (nI_ne0 h0 hy) (Sx.top (n_div hx hy) k)
theorem Sx.iremN {x y : Nat} (hd : decode μ.2.1 pc = .ok (.irem, 1)) (hx : x < 2147483648) (h0 : 0 < y) (hy : y < 2147483648) (k : Sx G l μ d bc bs (pc + 1) lv (.int (nI (x % y)) :: st) Z R I L post) : Sx G l μ d bc bs pc lv (.int (nI y) :: .int (nI x) :: st) Z R I L post :=
  Sx.irem hd (nI_ne0 h0 hy) (Sx.top (by
    rw [n_div hx hy, pk_mul, pk_sub (Nat.div_mul_le_self x y)]
    congr 1
    have := Nat.div_add_mod x y
    rw [Nat.mul_comm] at this
    omega) k)
/-! arrays by number -/
theorem Sx.ialdN {a n k : Nat} {v : Int32} (hd : decode μ.2.1 pc = .ok (.iaload, 1)) (ha : ar Z a 50 n) (hk : k < n) (hn : n < 2147483648) (hv : I a k = v) (kk : Sx G l μ d bc bs (pc + 1) lv (.int v :: st) Z R I L post) : Sx G l μ d bc bs pc lv (.int (nI k) :: .ref a :: st) Z R I L post :=
  Sx.iald hd ha (vp_in_nI hk hn) (by rw [nI_clamp (by omega), hv]; exact kk)
theorem Sx.ialdV {a n k : Nat} {i v : Int32} {z : Int} (hd : decode μ.2.1 pc = .ok (.iaload, 1)) (ha : ar Z a 50 n) (hi : VZ i z) (hz : z = (k : Int)) (hk : k < n) (hn : n < 2147483648) (hv : I a k = v) (kk : Sx G l μ d bc bs (pc + 1) lv (.int v :: st) Z R I L post) : Sx G l μ d bc bs pc lv (.int i :: .ref a :: st) Z R I L post := by
  subst hz
  rw [vz_n hi (by omega)]
  exact Sx.ialdN hd ha hk hn hv kk
theorem Sx.baldN {a n k : Nat} {v : Int32} (hd : decode μ.2.1 pc = .ok (.baload, 1)) (ha : ar Z a 51 n) (hk : k < n) (hn : n < 2147483648) (hv : I a k = v) (kk : Sx G l μ d bc bs (pc + 1) lv (.int v :: st) Z R I L post) : Sx G l μ d bc bs pc lv (.int (nI k) :: .ref a :: st) Z R I L post :=
  Sx.bald hd ha (vp_in_nI hk hn) (by rw [nI_clamp (by omega), hv]; exact kk)
theorem Sx.zaldN {a n k : Nat} {v : Int32} (hd : decode μ.2.1 pc = .ok (.baload, 1)) (ha : ar Z a 52 n) (hk : k < n) (hn : n < 2147483648) (hv : I a k = v) (kk : Sx G l μ d bc bs (pc + 1) lv (.int v :: st) Z R I L post) : Sx G l μ d bc bs pc lv (.int (nI k) :: .ref a :: st) Z R I L post :=
  Sx.zald hd ha (vp_in_nI hk hn) (by rw [nI_clamp (by omega), hv]; exact kk)
theorem Sx.laldN {a n k : Nat} {v : Int64} (hd : decode μ.2.1 pc = .ok (.laload, 1)) (ha : ar Z a 54 n) (hk : k < n) (hn : n < 2147483648) (hv : L a k = v) (kk : Sx G l μ d bc bs (pc + 1) lv (.long v :: st) Z R I L post) : Sx G l μ d bc bs pc lv (.int (nI k) :: .ref a :: st) Z R I L post :=
  Sx.lald hd ha (vp_in_nI hk hn) (by rw [nI_clamp (by omega), hv]; exact kk)
theorem up2_row (I : It) (a j : Nat) (x : Int32) : up2 I a j x a = upd (I a) j x := by simp [up2, va_up]
theorem Sx.iastN {a n k : Nat} {x : Int32} (hd : decode μ.2.1 pc = .ok (.iastore, 1)) (ha : ar Z a 50 n) (hk : k < n) (hn : n < 2147483648) (kk : ∀ I', I' a = upd (I a) k x → (∀ q, q ≠ a → I' q = I q) → Sx G l μ d bc bs (pc + 1) lv st Z R I' L post) : Sx G l μ d bc bs pc lv (.int x :: .int (nI k) :: .ref a :: st) Z R I L post :=
  Sx.iast hd ha (vp_in_nI hk hn) (by rw [nI_clamp (by omega)]; exact kk _ (up2_row I a k x) (fun q hq => up2_ne I a k x hq))
theorem Sx.iastV {a n k : Nat} {i x : Int32} {z : Int} (hd : decode μ.2.1 pc = .ok (.iastore, 1)) (ha : ar Z a 50 n) (hi : VZ i z) (hz : z = (k : Int)) (hk : k < n) (hn : n < 2147483648) (kk : ∀ I', I' a = upd (I a) k x → (∀ q, q ≠ a → I' q = I q) → Sx G l μ d bc bs (pc + 1) lv st Z R I' L post) : Sx G l μ d bc bs pc lv (.int x :: .int i :: .ref a :: st) Z R I L post := by
  subst hz
  rw [vz_n hi (by omega)]
  exact Sx.iastN hd ha hk hn kk
theorem Sx.bastN {a n k : Nat} {x : Int32} (hd : decode μ.2.1 pc = .ok (.bastore, 1)) (ha : ar Z a 51 n) (hk : k < n) (hn : n < 2147483648) (kk : ∀ I', I' a = upd (I a) k x.toInt8.toInt32 → (∀ q, q ≠ a → I' q = I q) → Sx G l μ d bc bs (pc + 1) lv st Z R I' L post) : Sx G l μ d bc bs pc lv (.int x :: .int (nI k) :: .ref a :: st) Z R I L post :=
  Sx.bast hd ha (vp_in_nI hk hn) (by rw [nI_clamp (by omega)]; exact kk _ (up2_row I a k _) (fun q hq => up2_ne I a k _ hq))
theorem vp_narB (b : Bool) : vp_nar .boolean (b2i b) = b2i b := by cases b <;> rfl
theorem Sx.zastB {a n k : Nat} {b : Bool} (hd : decode μ.2.1 pc = .ok (.bastore, 1)) (ha : ar Z a 52 n) (hk : k < n) (hn : n < 2147483648) (kk : ∀ I', I' a = upd (I a) k (b2i b) → (∀ q, q ≠ a → I' q = I q) → Sx G l μ d bc bs (pc + 1) lv st Z R I' L post) : Sx G l μ d bc bs pc lv (.int (b2i b) :: .int (nI k) :: .ref a :: st) Z R I L post :=
  Sx.zast hd ha (vp_in_nI hk hn) (by rw [nI_clamp (by omega), vp_narB]; exact kk _ (up2_row I a k _) (fun q hq => up2_ne I a k _ hq))
theorem Sx.lastN {a n k : Nat} {x : Int64} (hd : decode μ.2.1 pc = .ok (.lastore, 1)) (ha : ar Z a 54 n) (hk : k < n) (hn : n < 2147483648) (kk : ∀ L', L' a = vp_updL (L a) k x → (∀ q, q ≠ a → L' q = L q) → Sx G l μ d bc bs (pc + 1) lv st Z R I L' post) : Sx G l μ d bc bs pc lv (.long x :: .int (nI k) :: .ref a :: st) Z R I L post :=
  Sx.last hd ha (vp_in_nI hk hn) (by rw [nI_clamp (by omega)]; exact kk _ (by simp [up2L, va_up]) (fun q hq => by simp [up2L, va_up, hq]))
theorem Sx.getfV {i a c j : Nat} {v : Int32} (hd : decode μ.2.1 pc = .ok (.getfield i, 3)) (hk : LkF μ.1.cls i c j 0) (ha : ob Z a c) (hv : I a j = v) (kk : Sx G l μ d bc bs (pc + 3) lv (.int v :: st) Z R I L post) : Sx G l μ d bc bs pc lv (.ref a :: st) Z R I L post := Sx.getfI hd hk ha (by rw [hv]; exact kk)
theorem Sx.putfV {i a c j : Nat} {x : Int32} (hd : decode μ.2.1 pc = .ok (.putfield i, 3)) (hk : LkP μ.1.cls i c j 0 false) (ha : ob Z a c) (hn : narrow (fty c j) (.int x) = .int x) (hfit : fits (fty c j) (.int x) = true)
    (kk : ∀ I', I' a = upd (I a) j x → (∀ q, q ≠ a → I' q = I q) → Sx G l μ d bc bs (pc + 3) lv st Z R I' L post) : Sx G l μ d bc bs pc lv (.int x :: .ref a :: st) Z R I L post :=
  Sx.putfI hd hk ha hn hfit (kk _ (up2_row I a j x) (fun q hq => up2_ne I a j x hq))
theorem Sx.putfLV {i a c j : Nat} {x : Int64} (hd : decode μ.2.1 pc = .ok (.putfield i, 3)) (hk : LkP μ.1.cls i c j 1 false) (ha : ob Z a c) (hn : narrow (fty c j) (.long x) = .long x) (hfit : fits (fty c j) (.long x) = true)
    (kk : ∀ L', L' a = vp_updL (L a) j x → (∀ q, q ≠ a → L' q = L q) → Sx G l μ d bc bs (pc + 3) lv st Z R I L' post) : Sx G l μ d bc bs pc lv (.long x :: .ref a :: st) Z R I L post :=
  Sx.putfL hd hk ha hn hfit (kk _ (by simp [up2L, va_up]) (fun q hq => by simp [up2L, va_up, hq]))
theorem pNN {a b : Nat} (e : a = b) (h : post (some (.int (nI a))) Z R I L) : post (some (.int (nI b))) Z R I L := e ▸ h
theorem pZZ {a b : Int} (e : a = b) (h : post (some (.int (iI a))) Z R I L) : post (some (.int (iI b))) Z R I L := e ▸ h
theorem pZN {a : Int} {b : Nat} (e : a = (b : Int)) (h : post (some (.int (iI a))) Z R I L) : post (some (.int (nI b))) Z R I L := eZN e ▸ h
theorem pNZ {a : Nat} {b : Int} (e : (a : Int) = b) (h : post (some (.int (nI a))) Z R I L) : post (some (.int (iI b))) Z R I L := by rw [← e, ← nI_iI]; exact h
theorem pBB {a b : Bool} (e : a = b) (h : post (some (.int (b2i a))) Z R I L) : post (some (.int (b2i b))) Z R I L := e ▸ h
theorem pBN {a : Bool} {b : Nat} (e : (if a = true then 1 else 0) = b) (h : post (some (.int (b2i a))) Z R I L) : post (some (.int (nI b))) Z R I L := by
  rw [← e]
  cases a
  · exact h
  · exact h
theorem pXX {a b : Int32} (e : a = b) (h : post (some (.int a)) Z R I L) : post (some (.int b)) Z R I L := e ▸ h
theorem upd_at (f : Nat → Int32) (k : Nat) (x : Int32) : upd f k x k = x := by simp [upd]
theorem upd_nj (f : Nat → Int32) {k j : Nat} (x : Int32) (h : j ≠ k) : upd f k x j = f j := by simp [upd, h]
end VIEW
