/-! Law: signs as they are reckoned -/
def jnW (s a b : Int32) : Int64 := if s = 124 then (a ||| b).toInt64 else if s = 38 then (a &&& b).toInt64 else if s = 61 then (if a = b then 1 else 0) else if s = 60 then (if a < b then 1 else 0) else if s = 62 then (if b < a then 1 else 0) else if s = 43 then a.toInt64 + b.toInt64 else if s = 45 then a.toInt64 - b.toInt64 else if s = 42 then a.toInt64 * b.toInt64 else if s = 47 then (if b = 0 then 0 else a.toInt64 / b.toInt64) else 0
def jnI (s a b : Int32) : Int32 := (lmax (-1000000) (lmin 1000000 (jnW s a b))).toInt32
theorem i2l_0 {b : Int32} (h : ¬ b = 0) : ¬ b.toInt64 = 0 := fun q => h (by
  have := congrArg Int64.toInt q
  rw [Int32.toInt_toInt64] at this
  exact Int32.toInt_inj.mp this)
theorem lg_ge {x y : Int64} (h : 0 ≤ lg_cmp x y) : ¬ x < y := by
  intro q
  have q' := Int64.lt_iff_toInt_lt.mp q
  unfold lg_cmp at h
  have n1 : ¬ x > y := fun z => by
    have := Int64.lt_iff_toInt_lt.mp z
    omega
  have n2 : ¬ x = y := fun z => by
    rw [z] at q'
    omega
  rw [if_neg n1, if_neg n2] at h
  exact absurd h (by decide)
theorem lg_nge {x y : Int64} (h : ¬ 0 ≤ lg_cmp x y) : x < y := by
  unfold lg_cmp at h
  by_cases c1 : x > y
  · rw [if_pos c1] at h; exact absurd (by decide) h
  · rw [if_neg c1] at h
    by_cases c2 : x = y
    · rw [if_pos c2] at h; exact absurd (by decide) h
    · have c1' : ¬ y.toInt < x.toInt := fun z => c1 (Int64.lt_iff_toInt_lt.mpr z)
      have c2' : ¬ x.toInt = y.toInt := fun z => c2 (Int64.toInt_inj.mp z)
      exact Int64.lt_iff_toInt_lt.mpr (by omega)
theorem lg_le {x y : Int64} (h : lg_cmp x y ≤ 0) : ¬ y < x := by
  intro q
  unfold lg_cmp at h
  rw [if_pos (show x > y from q)] at h
  exact absurd h (by decide)
theorem lg_nle {x y : Int64} (h : ¬ lg_cmp x y ≤ 0) : y < x := by
  unfold lg_cmp at h
  by_cases c1 : x > y
  · exact c1
  · rw [if_neg c1] at h
    by_cases c2 : x = y
    · rw [if_pos c2] at h; exact absurd (by decide) h
    · rw [if_neg c2] at h; exact absurd (by decide) h
theorem cl_lo {w : Int64} (h : w < -1000000) : (lmax (-1000000) (lmin 1000000 w)).toInt32 = -1000000 := by
  have h' := Int64.lt_iff_toInt_lt.mp h
  have k1 : (1000000 : Int64).toInt = 1000000 := by decide
  have k2 : (-1000000 : Int64).toInt = -1000000 := by decide
  have c : w < 1000000 := Int64.lt_iff_toInt_lt.mpr (by omega)
  unfold lmax lmin
  rw [if_pos c, if_pos h]
  decide
theorem cl_hi {w : Int64} (h : 1000000 < w) : (lmax (-1000000) (lmin 1000000 w)).toInt32 = 1000000 := by
  have h' := Int64.lt_iff_toInt_lt.mp h
  have c : ¬ w < 1000000 := fun q => by
    have := Int64.lt_iff_toInt_lt.mp q
    omega
  unfold lmax lmin
  rw [if_neg c, if_neg (by decide)]
  decide
theorem cl_in {w : Int64} (h1 : ¬ w < -1000000) (h2 : ¬ 1000000 < w) : (lmax (-1000000) (lmin 1000000 w)).toInt32 = w.toInt32 := by
  have k1 : (1000000 : Int64).toInt = 1000000 := by decide
  unfold lmax lmin
  by_cases c : w < 1000000
  · rw [if_pos c, if_neg h1]
  · rw [if_neg c, if_neg (by decide)]
    have c' : ¬ w.toInt < (1000000 : Int64).toInt := fun z => c (Int64.lt_iff_toInt_lt.mpr z)
    have h2' : ¬ (1000000 : Int64).toInt < w.toInt := fun z => h2 (Int64.lt_iff_toInt_lt.mpr z)
    rw [show (1000000 : Int64) = w from Int64.toInt_inj.mp (by omega)]
set_option maxRecDepth 20000 in
set_option maxHeartbeats 1000000 in
theorem c_joined {G : Gt} {l : Launch} {Z : Zt} {R : Rt} {I : It} {L : Lt} {post : Pt'} {s a b : Int32} (h : post (some (.int (jnI s a b))) Z R I L) : Cx G l mX3_joined 1 0 0 [.int s, .int a, .int b] Z R I L post := by
  refine Cx.of (by decide +kernel) (by exact Nat.le_of_ble_eq_true rfl) ?_
  have J : ∀ (w : Int64), w = jnW s a b → Sx G l mX3_joined 1 0 0 186 [(3, .long w), (0, .int s), (1, .int a), (2, .int b)] [] Z R I L post := by
    intro w hw
    refine Sx.lload_n dX3_joined_186 rfl ?_
    refine Sx.ldc2 dX3_joined_187 lkk_X3_29 ?_
    refine Sx.lcmp dX3_joined_190 ?_
    refine Sx.if_ge (t := 199) dX3_joined_191 (by decide) (fun c191 => ?_) (fun c191 => ?_)
    · refine Sx.lload_n dX3_joined_199 rfl ?_
      refine Sx.ldc2 dX3_joined_200 lkk_X3_32 ?_
      refine Sx.lcmp dX3_joined_203 ?_
      refine Sx.if_le (t := 212) dX3_joined_204 (by decide) (fun c204 => ?_) (fun c204 => ?_)
      · refine Sx.lload_n dX3_joined_212 rfl ?_
        refine Sx.l2i dX3_joined_213 ?_
        refine Sx.iret dX3_joined_214 rfl rfl ?_
        have e : w.toInt32 = jnI s a b := by rw [jnI, ← hw]; exact (cl_in (lg_ge c191) (lg_le c204)).symm
        rw [e]; exact h
      · refine Sx.ldc dX3_joined_207 lkk_X3_34 ?_
        refine Sx.goto (t := 214) dX3_joined_209 (by decide) ?_
        refine Sx.iret dX3_joined_214 rfl rfl ?_
        have e : (1000000 : Int32) = jnI s a b := by rw [jnI, ← hw]; exact (cl_hi (lg_nle c204)).symm
        rw [e]; exact h
    · refine Sx.ldc dX3_joined_194 lkk_X3_31 ?_
      refine Sx.goto (t := 214) dX3_joined_196 (by decide) ?_
      refine Sx.iret dX3_joined_214 rfl rfl ?_
      have e : (-1000000 : Int32) = jnI s a b := by rw [jnI, ← hw]; exact (cl_lo (lg_nge c191)).symm
      rw [e]; exact h
  refine Sx.lconst (v := 0) dX3_joined_0 (by decide) ?_
  refine Sx.lst_n (fun zz => [(3, .long zz), (0, .int s), (1, .int a), (2, .int b)]) dX3_joined_1 (by decide) (fun _ => rfl) (fun x3_1 ex3_1 => ?_)
  refine Sx.iload_n dX3_joined_2 rfl ?_
  by_cases k3_38 : s = 38
  · refine Sx.lookup (t := 92) dX3_joined_3 (by decide) (o := 89) (by rw [k3_38]; decide) (by decide) ?_
    refine Sx.iload_n dX3_joined_92 rfl ?_
    refine Sx.iload_n dX3_joined_93 rfl ?_
    refine Sx.iand dX3_joined_94 ?_
    refine Sx.i2l dX3_joined_95 ?_
    refine Sx.lst_n (fun zz => [(3, .long zz), (0, .int s), (1, .int a), (2, .int b)]) dX3_joined_96 (by decide) (fun _ => rfl) (fun x3_96 ex3_96 => ?_)
    refine Sx.goto (t := 186) dX3_joined_97 (by decide) ?_
    refine J x3_96 ?_
    rw [ex3_96]
    first
      | (unfold jnW; simp only [*]; rfl)
      | (unfold jnW; simp [*]; done)
  by_cases k3_42 : s = 42
  · refine Sx.lookup (t := 160) dX3_joined_3 (by decide) (o := 157) (by rw [k3_42]; decide) (by decide) ?_
    refine Sx.iload_n dX3_joined_160 rfl ?_
    refine Sx.i2l dX3_joined_161 ?_
    refine Sx.iload_n dX3_joined_162 rfl ?_
    refine Sx.i2l dX3_joined_163 ?_
    refine Sx.lmul dX3_joined_164 ?_
    refine Sx.lst_n (fun zz => [(3, .long zz), (0, .int s), (1, .int a), (2, .int b)]) dX3_joined_165 (by decide) (fun _ => rfl) (fun x3_165 ex3_165 => ?_)
    refine Sx.goto (t := 186) dX3_joined_166 (by decide) ?_
    refine J x3_165 ?_
    rw [ex3_165]
    first
      | (unfold jnW; simp only [*]; rfl)
      | (unfold jnW; simp [*]; done)
  by_cases k3_43 : s = 43
  · refine Sx.lookup (t := 142) dX3_joined_3 (by decide) (o := 139) (by rw [k3_43]; decide) (by decide) ?_
    refine Sx.iload_n dX3_joined_142 rfl ?_
    refine Sx.i2l dX3_joined_143 ?_
    refine Sx.iload_n dX3_joined_144 rfl ?_
    refine Sx.i2l dX3_joined_145 ?_
    refine Sx.ladd dX3_joined_146 ?_
    refine Sx.lst_n (fun zz => [(3, .long zz), (0, .int s), (1, .int a), (2, .int b)]) dX3_joined_147 (by decide) (fun _ => rfl) (fun x3_147 ex3_147 => ?_)
    refine Sx.goto (t := 186) dX3_joined_148 (by decide) ?_
    refine J x3_147 ?_
    rw [ex3_147]
    first
      | (unfold jnW; simp only [*]; rfl)
      | (unfold jnW; simp [*]; done)
  by_cases k3_45 : s = 45
  · refine Sx.lookup (t := 151) dX3_joined_3 (by decide) (o := 148) (by rw [k3_45]; decide) (by decide) ?_
    refine Sx.iload_n dX3_joined_151 rfl ?_
    refine Sx.i2l dX3_joined_152 ?_
    refine Sx.iload_n dX3_joined_153 rfl ?_
    refine Sx.i2l dX3_joined_154 ?_
    refine Sx.lsub dX3_joined_155 ?_
    refine Sx.lst_n (fun zz => [(3, .long zz), (0, .int s), (1, .int a), (2, .int b)]) dX3_joined_156 (by decide) (fun _ => rfl) (fun x3_156 ex3_156 => ?_)
    refine Sx.goto (t := 186) dX3_joined_157 (by decide) ?_
    refine J x3_156 ?_
    rw [ex3_156]
    first
      | (unfold jnW; simp only [*]; rfl)
      | (unfold jnW; simp [*]; done)
  by_cases k3_47 : s = 47
  · refine Sx.lookup (t := 169) dX3_joined_3 (by decide) (o := 166) (by rw [k3_47]; decide) (by decide) ?_
    refine Sx.iload_n dX3_joined_169 rfl ?_
    refine Sx.if_ne (t := 177) dX3_joined_170 (by decide) (fun c170 => ?_) (fun c170 => ?_)
    · refine Sx.iload_n dX3_joined_177 rfl ?_
      refine Sx.i2l dX3_joined_178 ?_
      refine Sx.iload_n dX3_joined_179 rfl ?_
      refine Sx.i2l dX3_joined_180 ?_
      refine Sx.ldiv dX3_joined_181 (i2l_0 c170) ?_
      refine Sx.lst_n (fun zz => [(3, .long zz), (0, .int s), (1, .int a), (2, .int b)]) dX3_joined_182 (by decide) (fun _ => rfl) (fun x3_182 ex3_182 => ?_)
      refine Sx.goto (t := 186) dX3_joined_183 (by decide) ?_
      refine J x3_182 ?_
      rw [ex3_182]
      first
        | (unfold jnW; simp only [*]; rfl)
        | (unfold jnW; simp [*]; done)
    · refine Sx.lconst (v := 0) dX3_joined_173 (by decide) ?_
      refine Sx.goto (t := 182) dX3_joined_174 (by decide) ?_
      refine Sx.lst_n (fun zz => [(3, .long zz), (0, .int s), (1, .int a), (2, .int b)]) dX3_joined_182 (by decide) (fun _ => rfl) (fun x3_182 ex3_182 => ?_)
      refine Sx.goto (t := 186) dX3_joined_183 (by decide) ?_
      refine J x3_182 ?_
      rw [ex3_182]
      first
        | (unfold jnW; simp only [*]; rfl)
        | (unfold jnW; simp [*]; done)
  by_cases k3_60 : s = 60
  · refine Sx.lookup (t := 114) dX3_joined_3 (by decide) (o := 111) (by rw [k3_60]; decide) (by decide) ?_
    refine Sx.iload_n dX3_joined_114 rfl ?_
    refine Sx.iload_n dX3_joined_115 rfl ?_
    refine Sx.icmp_ge (t := 123) dX3_joined_116 (by decide) (fun c116 => ?_) (fun c116 => ?_)
    · refine Sx.lconst (v := 0) dX3_joined_123 (by decide) ?_
      refine Sx.lst_n (fun zz => [(3, .long zz), (0, .int s), (1, .int a), (2, .int b)]) dX3_joined_124 (by decide) (fun _ => rfl) (fun x3_124 ex3_124 => ?_)
      refine Sx.goto (t := 186) dX3_joined_125 (by decide) ?_
      refine J x3_124 ?_
      rw [ex3_124]
      first
        | (unfold jnW; simp only [*]; rfl)
        | (unfold jnW; simp [*]; done)
    · refine Sx.lconst (v := 1) dX3_joined_119 (by decide) ?_
      refine Sx.goto (t := 124) dX3_joined_120 (by decide) ?_
      refine Sx.lst_n (fun zz => [(3, .long zz), (0, .int s), (1, .int a), (2, .int b)]) dX3_joined_124 (by decide) (fun _ => rfl) (fun x3_124 ex3_124 => ?_)
      refine Sx.goto (t := 186) dX3_joined_125 (by decide) ?_
      refine J x3_124 ?_
      rw [ex3_124]
      first
        | (unfold jnW; simp only [*]; rfl)
        | (unfold jnW; simp [*]; done)
  by_cases k3_61 : s = 61
  · refine Sx.lookup (t := 100) dX3_joined_3 (by decide) (o := 97) (by rw [k3_61]; decide) (by decide) ?_
    refine Sx.iload_n dX3_joined_100 rfl ?_
    refine Sx.iload_n dX3_joined_101 rfl ?_
    refine Sx.icmp_ne (t := 109) dX3_joined_102 (by decide) (fun c102 => ?_) (fun c102 => ?_)
    · refine Sx.lconst (v := 0) dX3_joined_109 (by decide) ?_
      refine Sx.lst_n (fun zz => [(3, .long zz), (0, .int s), (1, .int a), (2, .int b)]) dX3_joined_110 (by decide) (fun _ => rfl) (fun x3_110 ex3_110 => ?_)
      refine Sx.goto (t := 186) dX3_joined_111 (by decide) ?_
      refine J x3_110 ?_
      rw [ex3_110]
      first
        | (unfold jnW; simp only [*]; rfl)
        | (unfold jnW; simp [*]; done)
    · refine Sx.lconst (v := 1) dX3_joined_105 (by decide) ?_
      refine Sx.goto (t := 110) dX3_joined_106 (by decide) ?_
      refine Sx.lst_n (fun zz => [(3, .long zz), (0, .int s), (1, .int a), (2, .int b)]) dX3_joined_110 (by decide) (fun _ => rfl) (fun x3_110 ex3_110 => ?_)
      refine Sx.goto (t := 186) dX3_joined_111 (by decide) ?_
      refine J x3_110 ?_
      rw [ex3_110]
      first
        | (unfold jnW; simp only [*]; rfl)
        | (unfold jnW; simp [*]; done)
  by_cases k3_62 : s = 62
  · refine Sx.lookup (t := 128) dX3_joined_3 (by decide) (o := 125) (by rw [k3_62]; decide) (by decide) ?_
    refine Sx.iload_n dX3_joined_128 rfl ?_
    refine Sx.iload_n dX3_joined_129 rfl ?_
    refine Sx.icmp_le (t := 137) dX3_joined_130 (by decide) (fun c130 => ?_) (fun c130 => ?_)
    · refine Sx.lconst (v := 0) dX3_joined_137 (by decide) ?_
      refine Sx.lst_n (fun zz => [(3, .long zz), (0, .int s), (1, .int a), (2, .int b)]) dX3_joined_138 (by decide) (fun _ => rfl) (fun x3_138 ex3_138 => ?_)
      refine Sx.goto (t := 186) dX3_joined_139 (by decide) ?_
      refine J x3_138 ?_
      rw [ex3_138]
      first
        | (unfold jnW; simp only [*]; rfl)
        | (unfold jnW; simp [*]; done)
    · refine Sx.lconst (v := 1) dX3_joined_133 (by decide) ?_
      refine Sx.goto (t := 138) dX3_joined_134 (by decide) ?_
      refine Sx.lst_n (fun zz => [(3, .long zz), (0, .int s), (1, .int a), (2, .int b)]) dX3_joined_138 (by decide) (fun _ => rfl) (fun x3_138 ex3_138 => ?_)
      refine Sx.goto (t := 186) dX3_joined_139 (by decide) ?_
      refine J x3_138 ?_
      rw [ex3_138]
      first
        | (unfold jnW; simp only [*]; rfl)
        | (unfold jnW; simp [*]; done)
  by_cases k3_124 : s = 124
  · refine Sx.lookup (t := 84) dX3_joined_3 (by decide) (o := 81) (by rw [k3_124]; decide) (by decide) ?_
    refine Sx.iload_n dX3_joined_84 rfl ?_
    refine Sx.iload_n dX3_joined_85 rfl ?_
    refine Sx.ior dX3_joined_86 ?_
    refine Sx.i2l dX3_joined_87 ?_
    refine Sx.lst_n (fun zz => [(3, .long zz), (0, .int s), (1, .int a), (2, .int b)]) dX3_joined_88 (by decide) (fun _ => rfl) (fun x3_88 ex3_88 => ?_)
    refine Sx.goto (t := 186) dX3_joined_89 (by decide) ?_
    refine J x3_88 ?_
    rw [ex3_88]
    first
      | (unfold jnW; simp only [*]; rfl)
      | (unfold jnW; simp [*]; done)
  refine Sx.lookup (t := 186) dX3_joined_3 (by decide) (o := 183) (by rw [lv_osw k3_38 (by decide)]; rw [lv_osw k3_42 (by decide)]; rw [lv_osw k3_43 (by decide)]; rw [lv_osw k3_45 (by decide)]; rw [lv_osw k3_47 (by decide)]; rw [lv_osw k3_60 (by decide)]; rw [lv_osw k3_61 (by decide)]; rw [lv_osw k3_62 (by decide)]; rw [lv_osw k3_124 (by decide)]; rfl) (by decide) ?_
  refine J x3_1 ?_
  rw [ex3_1]
  first
    | (unfold jnW; simp only [*]; rfl)
    | (unfold jnW; simp [*]; done)
/-- the run over the signs: none where it would take what isn't there -/
def exC (f ℓ : Nat → Int32) (n : Nat) : Nat → Nat → Bool → List Int32 → Option Int32
  | 0, _, _, _ => none
  | k + 1, i, sk, st =>
    if n ≤ i then some 0 else
    if sk = true then exC f ℓ n k (i + 1) (f i != -59) st else
    if 0 ≤ f i then (if st.length < 64 then exC f ℓ n k (i + 1) false (f i :: st) else none) else
    if -6 ≤ f i then (if st.length < 64 then exC f ℓ n k (i + 1) false (rget 6 ℓ (-1 - f i) :: st) else none) else
    if f i = -59 then st.head? else
    if f i = -63 then (match st with
      | v :: r => exC f ℓ n k (i + 1) (v == 0) r
      | [] => none) else
    if f i = -33 then (match st with
      | v :: r => exC f ℓ n k (i + 1) false ((1 - v) :: r)
      | [] => none) else
    match st with
      | b :: a :: r => exC f ℓ n k (i + 1) false (jnI (- f i) a b :: r)
      | _ => none
theorem exC_s (f ℓ : Nat → Int32) (n k i : Nat) (sk : Bool) (st : List Int32) : exC f ℓ n (k + 1) i sk st =
    if n ≤ i then some 0 else
    if sk = true then exC f ℓ n k (i + 1) (f i != -59) st else
    if 0 ≤ f i then (if st.length < 64 then exC f ℓ n k (i + 1) false (f i :: st) else none) else
    if -6 ≤ f i then (if st.length < 64 then exC f ℓ n k (i + 1) false (rget 6 ℓ (-1 - f i) :: st) else none) else
    if f i = -59 then st.head? else
    if f i = -63 then (match st with
      | v :: r => exC f ℓ n k (i + 1) (v == 0) r
      | [] => none) else
    if f i = -33 then (match st with
      | v :: r => exC f ℓ n k (i + 1) false ((1 - v) :: r)
      | [] => none) else
    match st with
      | b :: a :: r => exC f ℓ n k (i + 1) false (jnI (- f i) a b :: r)
      | _ => none := by
  rw [exC.eq_def]
/-- what lies on the stack's row -/
def stkR (S : Nat → Int32) (st : List Int32) : Prop := ∀ j v, st.reverse[j]? = some v → S j = v
theorem stkR_push {S : Nat → Int32} {st : List Int32} {v : Int32} (h : stkR S st) : stkR (upd S st.length v) (v :: st) := by
  intro j w hj
  rw [List.reverse_cons] at hj
  by_cases hl : j < st.length
  · rw [List.getElem?_append_left (by simpa using hl)] at hj
    rw [upd, if_neg (by omega)]
    exact h j w hj
  · have hlen : j < (st.reverse ++ [v]).length := (List.getElem?_eq_some_iff.mp hj).1
    simp at hlen
    have : j = st.length := by omega
    subst this
    rw [List.getElem?_append_right (by simp)] at hj
    simp at hj
    rw [upd, if_pos rfl, hj]
theorem stkR_top {S : Nat → Int32} {st : List Int32} {v : Int32} (h : stkR S (v :: st)) : S st.length = v := by
  refine h _ _ ?_
  rw [List.reverse_cons, List.getElem?_append_right (by simp)]
  simp
theorem stkR_pop {S : Nat → Int32} {st : List Int32} {v : Int32} (h : stkR S (v :: st)) : stkR S st := by
  intro j w hj
  refine h j w ?_
  have hl : j < st.reverse.length := (List.getElem?_eq_some_iff.mp hj).1
  rw [List.reverse_cons, List.getElem?_append_left hl]
  exact hj
theorem stkR_set {S : Nat → Int32} {st : List Int32} {v w : Int32} (h : stkR S (v :: st)) : stkR (upd S st.length w) (w :: st) := stkR_push (stkR_pop h)
set_option maxRecDepth 20000 in
set_option maxHeartbeats 1000000 in
theorem c_X3_clear {G : Gt} {l : Launch} {Z : Zt} {R : Rt} {I : It} {L : Lt} {post : Pt'} {a : Nat} (hr : rwo Z R a 3 240) (h : post none Z R (up2 I a 1 0) L) : Cx G l mX3_clear 1 0 0 [.ref a] Z R I L post := by
  refine Cx.of (by decide +kernel) (by exact Nat.le_of_ble_eq_true rfl) ?_
  refine Sx.aload_n dX3_clear_0 rfl ?_
  refine Sx.iconst (v := 0) dX3_clear_1 (by decide) ?_
  refine Sx.putfI dX3_clear_2 lkp_X3_9_3 hr.1 rfl rfl ?_
  refine Sx.vret dX3_clear_5 rfl ?_
  exact h
set_option maxRecDepth 20000 in
set_option maxHeartbeats 1000000 in
theorem c_X3_add {G : Gt} {l : Launch} {Z : Zt} {R : Rt} {I : It} {L : Lt} {post : Pt'} {a n : Nat} {v : Int32} (hr : rwo Z R a 3 240) (hl : I a 1 = nI n) (hn : n < 240) (h : ∀ I', I' (a + 1) = upd (I (a + 1)) n v → I' a 1 = nI (n + 1) → (∀ q, q ≠ a → q ≠ a + 1 → I' q = I q) → post none Z R I' L) : Cx G l mX3_add 2 0 0 [.ref a, .int v] Z R I L post := by
  refine Cx.of (by decide +kernel) (by exact Nat.le_of_ble_eq_true rfl) ?_
  refine Sx.aload_n dX3_add_0 rfl ?_
  refine Sx.getfI dX3_add_1 lkf_X3_9_3 hr.1 ?_
  refine Sx.sipush (v := 240) dX3_add_4 (by decide) ?_
  refine Sx.icmp_ge (t := 29) dX3_add_7 (by decide) (fun c7 => absurd c7 (by rw [hl]; exact nI_ge hn (by decide))) (fun c7 => ?_)
  refine Sx.aload_n dX3_add_10 rfl ?_
  refine Sx.aload_n dX3_add_11 rfl ?_
  refine Sx.getfI dX3_add_12 lkf_X3_9_3 hr.1 ?_
  refine Sx.iload_n dX3_add_15 rfl ?_
  refine Sx.callU2 dX3_add_16 lku_X3_15 (rcv_3 hr.1) (by decide) (by decide) (Nat.le_of_ble_eq_true rfl) rfl rfl (c_set hr rC3 (by decide) n hl hn (fun I1 e1 e2 => ?_))
  refine Sx.aload_n dX3_add_19 rfl ?_
  refine Sx.dup dX3_add_20 rfl ?_
  refine Sx.getfI dX3_add_21 lkf_X3_9_3 hr.1 ?_
  refine Sx.iconst (v := 1) dX3_add_24 (by decide) ?_
  refine Sx.iadd dX3_add_25 ?_
  refine Sx.putfI dX3_add_26 lkp_X3_9_3 hr.1 rfl rfl ?_
  refine Sx.vret dX3_add_29 rfl ?_
  refine h _ ?_ ?_ ?_
  · rw [up2, up_off _ _ (by omega)]; exact e1
  · rw [up2, up_at, e2 a (by omega), hl]; simp only [upd, if_pos rfl]; exact nI_1 n
  · intro q h1 h2
    rw [up2, up_off _ _ h1, e2 q h2]
set_option maxRecDepth 20000 in
set_option maxHeartbeats 1000000 in
theorem l_X3_worth {G : Gt} {l : Launch} {Z : Zt} {R : Rt} {L : Lt} {post : Pt'} {a b c n : Nat} {v : Int32} {I0 : It} (hr : rwo Z R a 3 240) (hb : rwo Z R b 7 6) (hc : rwo Z R c 7 64) (hab : a + 1 ≠ c + 1) (hac : a ≠ c + 1) (hbc : b + 1 ≠ c + 1) (hn : I0 a 1 = nI n) (hn2 : n ≤ 240) (h : ∀ I', (∀ q, q ≠ c + 1 → I' q = I0 q) → post (some (.int v)) Z R I' L) :
    ∀ (k i : Nat) (sk : Bool) (st : List Int32) (I : It), exC (I0 (a + 1)) (I0 (b + 1)) n k i sk st = some v → st.length ≤ 64 → stkR (I (c + 1)) st → (∀ q, q ≠ c + 1 → I q = I0 q) → i ≤ n → ∀ (yi ys yt : Int32), yi = nI i → ys = b2i sk → yt = nI st.length → Sx G l mX3_worth 2 0 0 8 [(5, .int yi), (4, .int ys), (3, .int yt), (0, .ref a), (1, .ref b), (2, .ref c)] [] Z R I L post := by
  intro k
  induction k with
  | zero => intro i sk st I hx; cases hx
  | succ k ih =>
    intro i sk st I hx hlen hst hJ hin yi ys yt hyi hys hyt
    refine Sx.iload dX3_worth_8 rfl ?_
    refine Sx.aload_n dX3_worth_10 rfl ?_
    refine Sx.getfI dX3_worth_11 lkf_X3_9_3 hr.1 ?_
    rw [show I a 1 = nI n by rw [hJ a hac]; exact hn]
    refine Sx.icmp_ge (t := 194) dX3_worth_14 (by decide) (fun c14 => ?_) (fun c14 => ?_)
    · refine Sx.iconst (v := 0) dX3_worth_194 (by decide) ?_
      refine Sx.iret dX3_worth_195 rfl rfl ?_
      have hge := lp_end hyi (by omega) hin c14
      rw [exC_s, if_pos (by omega)] at hx
      cases hx
      exact h I hJ
    · have hlt : i < n := lp_lt hyi (by omega) hin c14
      rw [exC_s, if_neg (Nat.not_le.mpr hlt)] at hx
      refine Sx.aload_n dX3_worth_17 rfl ?_
      refine Sx.iload dX3_worth_18 rfl ?_
      refine Sx.callU1 dX3_worth_20 lku_X3_19 (rcv_3 hr.1) (by decide) (by decide) (Nat.le_of_ble_eq_true rfl) rfl rfl (c_get hr rC3 (by decide) i hyi (by omega) ?_)
      refine Sx.ist (fun zz => [(6, .int zz), (5, .int yi), (4, .int ys), (3, .int yt), (0, .ref a), (1, .ref b), (2, .ref c)]) dX3_worth_23 (by decide) (fun _ => rfl) (fun x6_23 ex6_23 => ?_)
      have hf : x6_23 = I0 (a + 1) i := by rw [ex6_23, hJ _ hab]
      rw [← hf] at hx
      refine Sx.iload dX3_worth_25 rfl ?_
      refine Sx.if_eq (t := 47) dX3_worth_27 (by decide) (fun c27 => ?_) (fun c27 => ?_)
      · have hsk : sk = false := by rw [hys] at c27; exact b2i_0.mp c27
        rw [if_neg (by rw [hsk]; decide)] at hx
        refine Sx.iload dX3_worth_47 rfl ?_
        refine Sx.if_lt (t := 65) dX3_worth_49 (by decide) (fun c49 => ?_) (fun c49 => ?_)
        · rw [if_neg (r_nle c49)] at hx
          refine Sx.iload dX3_worth_65 rfl ?_
          refine Sx.bipush (v := (-6)) dX3_worth_67 (by decide) ?_
          refine Sx.icmp_lt (t := 91) dX3_worth_69 (by decide) (fun c69 => ?_) (fun c69 => ?_)
          · rw [if_neg (Int32.not_le.mpr c69)] at hx
            refine Sx.iload dX3_worth_91 rfl ?_
            refine Sx.bipush (v := (-59)) dX3_worth_93 (by decide) ?_
            refine Sx.icmp_ne (t := 106) dX3_worth_95 (by decide) (fun c95 => ?_) (fun c95 => ?_)
            · rw [if_neg c95] at hx
              refine Sx.iload dX3_worth_106 rfl ?_
              refine Sx.bipush (v := (-63)) dX3_worth_108 (by decide) ?_
              refine Sx.icmp_ne (t := 134) dX3_worth_110 (by decide) (fun c110 => ?_) (fun c110 => ?_)
              · rw [if_neg c110] at hx
                refine Sx.iload dX3_worth_134 rfl ?_
                refine Sx.bipush (v := (-33)) dX3_worth_136 (by decide) ?_
                refine Sx.icmp_ne (t := 160) dX3_worth_138 (by decide) (fun c138 => ?_) (fun c138 => ?_)
                · rw [if_neg c138] at hx
                  obtain ⟨b1, a1, st2, rfl⟩ : ∃ b1 a1 st2, st = b1 :: a1 :: st2 := by
                    cases st with
                    | nil => cases hx
                    | cons w r => cases r with
                      | nil => cases hx
                      | cons w2 r => exact ⟨w, w2, r, rfl⟩
                  have hb1 : I (c + 1) (st2.length + 1) = b1 := stkR_top hst
                  have ha1 : I (c + 1) st2.length = a1 := stkR_top (stkR_pop hst)
                  refine Sx.iincN (fun zz => [(3, .int zz), (6, .int x6_23), (5, .int yi), (4, .int ys), (0, .ref a), (1, .ref b), (2, .ref c)]) dX3_worth_160 rfl (by decide) (fun _ => rfl) (fun x3_160 ex3_160 => ?_)
                  have hy3 : x3_160 = nI (st2.length + 1) := by rw [ex3_160, hyt]; exact pk_m1 _
                  refine Sx.aload_n dX3_worth_163 rfl ?_
                  refine Sx.iload_n dX3_worth_164 rfl ?_
                  refine Sx.iconst (v := 1) dX3_worth_165 (by decide) ?_
                  refine Sx.isub dX3_worth_166 ?_
                  refine Sx.iload dX3_worth_167 rfl ?_
                  refine Sx.ineg dX3_worth_169 ?_
                  refine Sx.aload_n dX3_worth_170 rfl ?_
                  refine Sx.iload_n dX3_worth_171 rfl ?_
                  refine Sx.iconst (v := 1) dX3_worth_172 (by decide) ?_
                  refine Sx.isub dX3_worth_173 ?_
                  refine Sx.callV1 dX3_worth_174 lkv_X3_24 (rcv_7 hc.1) (by decide) (by decide) (Nat.le_of_ble_eq_true rfl) rfl rfl (c_get hc rC7 (by decide) st2.length (by rw [hy3]; exact nI_pred _) (by simp at hlen; omega) ?_)
                  refine Sx.aload_n dX3_worth_177 rfl ?_
                  refine Sx.iload_n dX3_worth_178 rfl ?_
                  refine Sx.callV1 dX3_worth_179 lkv_X3_24 (rcv_7 hc.1) (by decide) (by decide) (Nat.le_of_ble_eq_true rfl) rfl rfl (c_get hc rC7 (by decide) (st2.length + 1) hy3 (by simp at hlen; omega) ?_)
                  refine Sx.callS3 dX3_worth_182 lkc_X3_25  (by decide) (by decide) (Nat.le_of_ble_eq_true rfl) rfl rfl (c_joined ?_)
                  refine Sx.callV2 dX3_worth_185 lkv_X3_23 (rcv_7 hc.1) (by decide) (by decide) (Nat.le_of_ble_eq_true rfl) rfl rfl (c_set hc rC7 (by decide) st2.length (by rw [hy3]; exact nI_pred _) (by simp at hlen; omega) (fun I1 e1 e2 => ?_))
                  refine Sx.iincN (fun zz => [(5, .int zz), (3, .int x3_160), (6, .int x6_23), (4, .int ys), (0, .ref a), (1, .ref b), (2, .ref c)]) dX3_worth_188 rfl (by decide) (fun _ => rfl) (fun x5_188 ex5_188 => ?_)
                  refine Sx.goto (t := 8) dX3_worth_191 (by decide) ?_
                  refine Sx.sub' [(5, .int x5_188), (4, .int ys), (3, .int x3_160), (0, .ref a), (1, .ref b), (2, .ref c)] rfl ?_
                  exact ih (i + 1) false (jnI (- x6_23) a1 b1 :: st2) I1 hx (by simp at hlen ⊢; omega) (by rw [e1, hb1, ha1]; exact stkR_set (stkR_pop hst)) (fun q hq => (e2 q hq).trans (hJ q hq)) hlt _ _ _ (by rw [ex5_188, hyi]; exact nI_1 i) (by rw [hys, hsk]) (by rw [ex3_160, hyt]; exact pk_m1 _)
                · rw [if_pos c138] at hx
                  obtain ⟨v1, st1, rfl⟩ : ∃ v1 st1, st = v1 :: st1 := by
                    cases st with
                    | nil => cases hx
                    | cons w r => exact ⟨w, r, rfl⟩
                  have hv1 : I (c + 1) st1.length = v1 := stkR_top hst
                  refine Sx.aload_n dX3_worth_141 rfl ?_
                  refine Sx.iload_n dX3_worth_142 rfl ?_
                  refine Sx.iconst (v := 1) dX3_worth_143 (by decide) ?_
                  refine Sx.isub dX3_worth_144 ?_
                  refine Sx.iconst (v := 1) dX3_worth_145 (by decide) ?_
                  refine Sx.aload_n dX3_worth_146 rfl ?_
                  refine Sx.iload_n dX3_worth_147 rfl ?_
                  refine Sx.iconst (v := 1) dX3_worth_148 (by decide) ?_
                  refine Sx.isub dX3_worth_149 ?_
                  refine Sx.callV1 dX3_worth_150 lkv_X3_24 (rcv_7 hc.1) (by decide) (by decide) (Nat.le_of_ble_eq_true rfl) rfl rfl (c_get hc rC7 (by decide) st1.length (by rw [hyt]; exact nI_pred _) (by simp at hlen; omega) ?_)
                  refine Sx.isub dX3_worth_153 ?_
                  refine Sx.callV2 dX3_worth_154 lkv_X3_23 (rcv_7 hc.1) (by decide) (by decide) (Nat.le_of_ble_eq_true rfl) rfl rfl (c_set hc rC7 (by decide) st1.length (by rw [hyt]; exact nI_pred _) (by simp at hlen; omega) (fun I1 e1 e2 => ?_))
                  refine Sx.goto (t := 188) dX3_worth_157 (by decide) ?_
                  refine Sx.iincN (fun zz => [(5, .int zz), (6, .int x6_23), (4, .int ys), (3, .int yt), (0, .ref a), (1, .ref b), (2, .ref c)]) dX3_worth_188 rfl (by decide) (fun _ => rfl) (fun x5_188 ex5_188 => ?_)
                  refine Sx.goto (t := 8) dX3_worth_191 (by decide) ?_
                  refine Sx.sub' [(5, .int x5_188), (4, .int ys), (3, .int yt), (0, .ref a), (1, .ref b), (2, .ref c)] rfl ?_
                  exact ih (i + 1) false ((1 - v1) :: st1) I1 hx hlen (by rw [e1, hv1]; exact stkR_set hst) (fun q hq => (e2 q hq).trans (hJ q hq)) hlt _ _ _ (by rw [ex5_188, hyi]; exact nI_1 i) (by rw [hys, hsk]) hyt
              · rw [if_pos c110] at hx
                obtain ⟨v1, st1, rfl⟩ : ∃ v1 st1, st = v1 :: st1 := by
                  cases st with
                  | nil => cases hx
                  | cons w r => exact ⟨w, r, rfl⟩
                have hv1 : I (c + 1) st1.length = v1 := stkR_top hst
                refine Sx.iincN (fun zz => [(3, .int zz), (6, .int x6_23), (5, .int yi), (4, .int ys), (0, .ref a), (1, .ref b), (2, .ref c)]) dX3_worth_113 rfl (by decide) (fun _ => rfl) (fun x3_113 ex3_113 => ?_)
                refine Sx.aload_n dX3_worth_116 rfl ?_
                refine Sx.iload_n dX3_worth_117 rfl ?_
                refine Sx.callV1 dX3_worth_118 lkv_X3_24 (rcv_7 hc.1) (by decide) (by decide) (Nat.le_of_ble_eq_true rfl) rfl rfl (c_get hc rC7 (by decide) st1.length (by rw [ex3_113, hyt]; exact pk_m1 _) (by simp at hlen; omega) ?_)
                refine Sx.if_ne (t := 128) dX3_worth_121 (by decide) (fun c121 => ?_) (fun c121 => ?_)
                · refine Sx.iconst (v := 0) dX3_worth_128 (by decide) ?_
                  refine Sx.ist (fun zz => [(4, .int zz), (3, .int x3_113), (6, .int x6_23), (5, .int yi), (0, .ref a), (1, .ref b), (2, .ref c)]) dX3_worth_129 (by decide) (fun _ => rfl) (fun x4_129 ex4_129 => ?_)
                  refine Sx.goto (t := 188) dX3_worth_131 (by decide) ?_
                  refine Sx.iincN (fun zz => [(5, .int zz), (4, .int x4_129), (3, .int x3_113), (6, .int x6_23), (0, .ref a), (1, .ref b), (2, .ref c)]) dX3_worth_188 rfl (by decide) (fun _ => rfl) (fun x5_188 ex5_188 => ?_)
                  refine Sx.goto (t := 8) dX3_worth_191 (by decide) ?_
                  refine Sx.sub' [(5, .int x5_188), (4, .int x4_129), (3, .int x3_113), (0, .ref a), (1, .ref b), (2, .ref c)] rfl ?_
                  exact ih (i + 1) (v1 == 0) st1 I hx (by simp at hlen; omega) (stkR_pop hst) hJ hlt _ _ _ (by rw [ex5_188, hyi]; exact nI_1 i) (by rw [ex4_129, show (v1 == 0) = false by rw [← hv1]; simpa using c121]; rfl) (by rw [ex3_113, hyt]; exact pk_m1 _)
                · refine Sx.iconst (v := 1) dX3_worth_124 (by decide) ?_
                  refine Sx.goto (t := 129) dX3_worth_125 (by decide) ?_
                  refine Sx.ist (fun zz => [(4, .int zz), (3, .int x3_113), (6, .int x6_23), (5, .int yi), (0, .ref a), (1, .ref b), (2, .ref c)]) dX3_worth_129 (by decide) (fun _ => rfl) (fun x4_129 ex4_129 => ?_)
                  refine Sx.goto (t := 188) dX3_worth_131 (by decide) ?_
                  refine Sx.iincN (fun zz => [(5, .int zz), (4, .int x4_129), (3, .int x3_113), (6, .int x6_23), (0, .ref a), (1, .ref b), (2, .ref c)]) dX3_worth_188 rfl (by decide) (fun _ => rfl) (fun x5_188 ex5_188 => ?_)
                  refine Sx.goto (t := 8) dX3_worth_191 (by decide) ?_
                  refine Sx.sub' [(5, .int x5_188), (4, .int x4_129), (3, .int x3_113), (0, .ref a), (1, .ref b), (2, .ref c)] rfl ?_
                  exact ih (i + 1) (v1 == 0) st1 I hx (by simp at hlen; omega) (stkR_pop hst) hJ hlt _ _ _ (by rw [ex5_188, hyi]; exact nI_1 i) (by rw [ex4_129, show (v1 == 0) = true by rw [← hv1]; simpa using c121]; rfl) (by rw [ex3_113, hyt]; exact pk_m1 _)
            · rw [if_pos c95] at hx
              obtain ⟨st1, rfl⟩ : ∃ st1, st = v :: st1 := by
                cases st with
                | nil => cases hx
                | cons w r => cases hx; exact ⟨r, rfl⟩
              refine Sx.aload_n dX3_worth_98 rfl ?_
              refine Sx.iload_n dX3_worth_99 rfl ?_
              refine Sx.iconst (v := 1) dX3_worth_100 (by decide) ?_
              refine Sx.isub dX3_worth_101 ?_
              refine Sx.callV1 dX3_worth_102 lkv_X3_24 (rcv_7 hc.1) (by decide) (by decide) (Nat.le_of_ble_eq_true rfl) rfl rfl (c_get hc rC7 (by decide) st1.length (by rw [hyt]; exact nI_pred _) (by simp at hlen; omega) ?_)
              refine Sx.iret dX3_worth_105 rfl rfl ?_
              have e : I (c + 1) st1.length = v := stkR_top hst
              rw [e]
              exact h I hJ
          · rw [if_pos (Int32.not_lt.mp c69)] at hx
            have hl64 : st.length < 64 := by
              by_cases q : st.length < 64
              · exact q
              · rw [if_neg q] at hx; cases hx
            rw [if_pos hl64] at hx
            refine Sx.aload_n dX3_worth_72 rfl ?_
            refine Sx.iload_n dX3_worth_73 rfl ?_
            refine Sx.aload_n dX3_worth_74 rfl ?_
            refine Sx.iconst (v := (-1)) dX3_worth_75 (by decide) ?_
            refine Sx.iload dX3_worth_76 rfl ?_
            refine Sx.isub dX3_worth_78 ?_
            refine Sx.callV1 dX3_worth_79 lkv_X3_24 (rcv_7 hb.1) (by decide) (by decide) (Nat.le_of_ble_eq_true rfl) rfl rfl (c_X7_get hb rC7 (by decide) ?_)
            refine Sx.callV2 dX3_worth_82 lkv_X3_23 (rcv_7 hc.1) (by decide) (by decide) (Nat.le_of_ble_eq_true rfl) rfl rfl (c_set hc rC7 (by decide) st.length hyt hl64 (fun I1 e1 e2 => ?_))
            refine Sx.iincN (fun zz => [(3, .int zz), (6, .int x6_23), (5, .int yi), (4, .int ys), (0, .ref a), (1, .ref b), (2, .ref c)]) dX3_worth_85 rfl (by decide) (fun _ => rfl) (fun x3_85 ex3_85 => ?_)
            refine Sx.goto (t := 188) dX3_worth_88 (by decide) ?_
            refine Sx.iincN (fun zz => [(5, .int zz), (3, .int x3_85), (6, .int x6_23), (4, .int ys), (0, .ref a), (1, .ref b), (2, .ref c)]) dX3_worth_188 rfl (by decide) (fun _ => rfl) (fun x5_188 ex5_188 => ?_)
            refine Sx.goto (t := 8) dX3_worth_191 (by decide) ?_
            refine Sx.sub' [(5, .int x5_188), (4, .int ys), (3, .int x3_85), (0, .ref a), (1, .ref b), (2, .ref c)] rfl ?_
            exact ih (i + 1) false (rget 6 (I0 (b + 1)) (-1 - x6_23) :: st) I1 hx (by simp; omega) (by rw [e1, hJ _ hbc]; exact stkR_push hst) (fun q hq => (e2 q hq).trans (hJ q hq)) hlt _ _ _ (by rw [ex5_188, hyi]; exact nI_1 i) (by rw [hys, hsk]) (by rw [ex3_85, hyt]; exact nI_1 _)
        · rw [if_pos (r_nn c49)] at hx
          have hl64 : st.length < 64 := by
            by_cases q : st.length < 64
            · exact q
            · rw [if_neg q] at hx; cases hx
          rw [if_pos hl64] at hx
          refine Sx.aload_n dX3_worth_52 rfl ?_
          refine Sx.iload_n dX3_worth_53 rfl ?_
          refine Sx.iload dX3_worth_54 rfl ?_
          refine Sx.callV2 dX3_worth_56 lkv_X3_23 (rcv_7 hc.1) (by decide) (by decide) (Nat.le_of_ble_eq_true rfl) rfl rfl (c_set hc rC7 (by decide) st.length hyt hl64 (fun I1 e1 e2 => ?_))
          refine Sx.iincN (fun zz => [(3, .int zz), (6, .int x6_23), (5, .int yi), (4, .int ys), (0, .ref a), (1, .ref b), (2, .ref c)]) dX3_worth_59 rfl (by decide) (fun _ => rfl) (fun x3_59 ex3_59 => ?_)
          refine Sx.goto (t := 188) dX3_worth_62 (by decide) ?_
          refine Sx.iincN (fun zz => [(5, .int zz), (3, .int x3_59), (6, .int x6_23), (4, .int ys), (0, .ref a), (1, .ref b), (2, .ref c)]) dX3_worth_188 rfl (by decide) (fun _ => rfl) (fun x5_188 ex5_188 => ?_)
          refine Sx.goto (t := 8) dX3_worth_191 (by decide) ?_
          refine Sx.sub' [(5, .int x5_188), (4, .int ys), (3, .int x3_59), (0, .ref a), (1, .ref b), (2, .ref c)] rfl ?_
          exact ih (i + 1) false (x6_23 :: st) I1 hx (by simp; omega) (by rw [e1]; exact stkR_push hst) (fun q hq => (e2 q hq).trans (hJ q hq)) hlt _ _ _ (by rw [ex5_188, hyi]; exact nI_1 i) (by rw [hys, hsk]) (by rw [ex3_59, hyt]; exact nI_1 _)
      · have hsk : sk = true := by rw [hys] at c27; exact b2i_ne.mp c27
        rw [if_pos hsk] at hx
        refine Sx.iload dX3_worth_30 rfl ?_
        refine Sx.bipush (v := (-59)) dX3_worth_32 (by decide) ?_
        refine Sx.icmp_eq (t := 41) dX3_worth_34 (by decide) (fun c34 => ?_) (fun c34 => ?_)
        · refine Sx.iconst (v := 0) dX3_worth_41 (by decide) ?_
          refine Sx.ist (fun zz => [(4, .int zz), (6, .int x6_23), (5, .int yi), (3, .int yt), (0, .ref a), (1, .ref b), (2, .ref c)]) dX3_worth_42 (by decide) (fun _ => rfl) (fun x4_42 ex4_42 => ?_)
          refine Sx.goto (t := 188) dX3_worth_44 (by decide) ?_
          refine Sx.iincN (fun zz => [(5, .int zz), (4, .int x4_42), (6, .int x6_23), (3, .int yt), (0, .ref a), (1, .ref b), (2, .ref c)]) dX3_worth_188 rfl (by decide) (fun _ => rfl) (fun x5_188 ex5_188 => ?_)
          refine Sx.goto (t := 8) dX3_worth_191 (by decide) ?_
          refine Sx.sub' [(5, .int x5_188), (4, .int x4_42), (3, .int yt), (0, .ref a), (1, .ref b), (2, .ref c)] rfl ?_
          exact ih (i + 1) (x6_23 != -59) st I hx hlen hst hJ hlt _ _ _ (by rw [ex5_188, hyi]; exact nI_1 i) (by rw [ex4_42, c34]; rfl) hyt
        · refine Sx.iconst (v := 1) dX3_worth_37 (by decide) ?_
          refine Sx.goto (t := 42) dX3_worth_38 (by decide) ?_
          refine Sx.ist (fun zz => [(4, .int zz), (6, .int x6_23), (5, .int yi), (3, .int yt), (0, .ref a), (1, .ref b), (2, .ref c)]) dX3_worth_42 (by decide) (fun _ => rfl) (fun x4_42 ex4_42 => ?_)
          refine Sx.goto (t := 188) dX3_worth_44 (by decide) ?_
          refine Sx.iincN (fun zz => [(5, .int zz), (4, .int x4_42), (6, .int x6_23), (3, .int yt), (0, .ref a), (1, .ref b), (2, .ref c)]) dX3_worth_188 rfl (by decide) (fun _ => rfl) (fun x5_188 ex5_188 => ?_)
          refine Sx.goto (t := 8) dX3_worth_191 (by decide) ?_
          refine Sx.sub' [(5, .int x5_188), (4, .int x4_42), (3, .int yt), (0, .ref a), (1, .ref b), (2, .ref c)] rfl ?_
          exact ih (i + 1) (x6_23 != -59) st I hx hlen hst hJ hlt _ _ _ (by rw [ex5_188, hyi]; exact nI_1 i) (by rw [ex4_42, show (x6_23 != -59) = true by simpa using c34]; rfl) hyt
set_option maxRecDepth 20000 in
set_option maxHeartbeats 1000000 in
theorem c_X3_worth {G : Gt} {l : Launch} {Z : Zt} {R : Rt} {I : It} {L : Lt} {post : Pt'} {a b c n : Nat} {v : Int32} (hr : rwo Z R a 3 240) (hb : rwo Z R b 7 6) (hc : rwo Z R c 7 64) (hab : a + 1 ≠ c + 1) (hac : a ≠ c + 1) (hbc : b + 1 ≠ c + 1) (hn : I a 1 = nI n) (hn2 : n ≤ 240) (hx : exC (I (a + 1)) (I (b + 1)) n (n + 1) 0 false [] = some v) (h : ∀ I', (∀ q, q ≠ c + 1 → I' q = I q) → post (some (.int v)) Z R I' L) : Cx G l mX3_worth 2 0 0 [.ref a, .ref b, .ref c] Z R I L post := by
  refine Cx.of (by decide +kernel) (by exact Nat.le_of_ble_eq_true rfl) ?_
  refine Sx.iconst (v := 0) dX3_worth_0 (by decide) ?_
  refine Sx.ist_n (fun zz => [(3, .int zz), (0, .ref a), (1, .ref b), (2, .ref c)]) dX3_worth_1 (by decide) (fun _ => rfl) (fun x3_1 ex3_1 => ?_)
  refine Sx.iconst (v := 0) dX3_worth_2 (by decide) ?_
  refine Sx.ist (fun zz => [(4, .int zz), (3, .int x3_1), (0, .ref a), (1, .ref b), (2, .ref c)]) dX3_worth_3 (by decide) (fun _ => rfl) (fun x4_3 ex4_3 => ?_)
  refine Sx.iconst (v := 0) dX3_worth_5 (by decide) ?_
  refine Sx.ist (fun zz => [(5, .int zz), (4, .int x4_3), (3, .int x3_1), (0, .ref a), (1, .ref b), (2, .ref c)]) dX3_worth_6 (by decide) (fun _ => rfl) (fun x5_6 ex5_6 => ?_)
  exact l_X3_worth hr hb hc hab hac hbc hn hn2 h (n + 1) 0 false [] I hx (by simp) (fun j v hj => by simp at hj) (fun _ _ => rfl) (by omega) _ _ _ ex5_6 ex4_3 ex3_1
