/-! rows for small naturals, booleans and sets of squares -/
abbrev nb (b : Nat → Nat) : Nat → Int32 := fun i => nI (b i)
def up (b : Nat → Nat) (k v : Nat) : Nat → Nat := fun i => if i = k then v else b i
theorem up_nb (b : Nat → Nat) (k v : Nat) : upd (nb b) k (nI v) = nb (up b k v) := by
  funext i
  by_cases h : i = k
  · subst h; simp [upd, nb, up]
  · simp [upd, nb, up, h]
theorem up_at (b : Nat → Nat) (k v : Nat) : up b k v k = v := by simp [up]
theorem up_ne (b : Nat → Nat) {k v i : Nat} (h : i ≠ k) : up b k v i = b i := by simp [up, h]
theorem up_up (b : Nat → Nat) (k v u : Nat) : up (up b k v) k u = up b k u := by funext i; by_cases h : i = k <;> simp [up, h]
theorem up_id (b : Nat → Nat) (k : Nat) : up b k (b k) = b := by funext i; by_cases h : i = k <;> simp [up, h]
theorem up_comm (b : Nat → Nat) {k j : Nat} (v u : Nat) (h : k ≠ j) : up (up b k v) j u = up (up b j u) k v := by
  funext i
  by_cases h1 : i = j
  · subst h1; simp [up, Ne.symm h]
  · by_cases h2 : i = k <;> simp [up, h1, h2, h]
def qb (p : Bool) : Int32 := if p = true then nI 1 else nI 0
theorem qb_t : qb true = nI 1 := rfl
theorem qb_f : qb false = nI 0 := rfl
theorem qb_0 {p : Bool} : qb p = 0 ↔ p = false := by cases p <;> decide +kernel
theorem qb_nI (p : Bool) : qb p = nI (if p = true then 1 else 0) := by cases p <;> rfl
theorem qb_nar (p : Bool) : narrow .boolean (.int (qb p)) = .int (qb p) := by cases p <;> rfl
section NROWS
theorem x_iald {X : qX} {M : qM} (C : qC X M) {pc : Nat} {loc : List (Nat × Value)} {st : List Value} {h : qH} {a n i : Nat} {f : Nat → Int32} (hd : decode M.2.1 pc = .ok (.iaload, 1)) (ho : h[a]? = some (.inl (0, n, .inl f))) (hi : i < n) (hn : n < 2147483648) (kk : Ex X M (pc + 1) loc (.int (f i) :: st) h) : Ex X M pc loc (.int (nI i) :: .ref a :: st) h := by
  refine x_iaload C hd ho (vp_in_nI hi hn) ?_
  rw [nI_clamp (Nat.lt_trans hi hn)]
  exact kk
theorem x_iast {X : qX} {M : qM} (C : qC X M) {pc : Nat} {loc : List (Nat × Value)} {st : List Value} {h : qH} {a n i : Nat} {x : Int32} {f : Nat → Int32} (hd : decode M.2.1 pc = .ok (.iastore, 1)) (ho : h[a]? = some (.inl (0, n, .inl f))) (hi : i < n) (hn : n < 2147483648) (kk : Ex X M (pc + 1) loc st (h.set a (.inl (0, n, .inl (upd f i x))))) : Ex X M pc loc (.int x :: .int (nI i) :: .ref a :: st) h := by
  refine x_iastore C hd ho (vp_in_nI hi hn) ?_
  rw [nI_clamp (Nat.lt_trans hi hn)]
  exact kk
theorem x_istb {X : qX} {M : qM} (C : qC X M) {pc : Nat} {loc : List (Nat × Value)} {st : List Value} {h : qH} {a n i v : Nat} {b : Nat → Nat} (hd : decode M.2.1 pc = .ok (.iastore, 1)) (ho : h[a]? = some (.inl (0, n, .inl (nb b)))) (hi : i < n) (hn : n < 2147483648) (kk : Ex X M (pc + 1) loc st (h.set a (.inl (0, n, .inl (nb (up b i v)))))) : Ex X M pc loc (.int (nI v) :: .int (nI i) :: .ref a :: st) h := by
  refine x_iast C hd ho hi hn ?_
  rw [up_nb]
  exact kk
theorem x_iaddN {X : qX} {M : qM} (C : qC X M) {pc : Nat} {loc : List (Nat × Value)} {st : List Value} {h : qH} {a b : Nat} (hd : decode M.2.1 pc = .ok (.iadd, 1)) (kk : Ex X M (pc + 1) loc (.int (nI (a + b)) :: st) h) : Ex X M pc loc (.int (nI b) :: .int (nI a) :: st) h := by
  refine x_iadd C hd ?_
  rw [nI_add]
  exact kk
theorem x_imulN {X : qX} {M : qM} (C : qC X M) {pc : Nat} {loc : List (Nat × Value)} {st : List Value} {h : qH} {a b : Nat} (hd : decode M.2.1 pc = .ok (.imul, 1)) (kk : Ex X M (pc + 1) loc (.int (nI (a * b)) :: st) h) : Ex X M pc loc (.int (nI b) :: .int (nI a) :: st) h := by
  refine x_imul C hd ?_
  rw [pk_mul]
  exact kk
theorem x_isubN {X : qX} {M : qM} (C : qC X M) {pc : Nat} {loc : List (Nat × Value)} {st : List Value} {h : qH} {a b : Nat} (hd : decode M.2.1 pc = .ok (.isub, 1)) (hle : b ≤ a) (kk : Ex X M (pc + 1) loc (.int (nI (a - b)) :: st) h) : Ex X M pc loc (.int (nI b) :: .int (nI a) :: st) h := by
  refine x_isub C hd ?_
  rw [pk_sub hle]
  exact kk
theorem nI_ne {d : Nat} (h0 : 0 < d) (hd : d < 2147483648) : ¬ nI d = 0 := nI_ne0 h0 hd
theorem x_idivN {X : qX} {M : qM} (C : qC X M) {pc : Nat} {loc : List (Nat × Value)} {st : List Value} {h : qH} {a d : Nat} (hd : decode M.2.1 pc = .ok (.idiv, 1)) (ha : a < 2147483648) (h0 : 0 < d) (hd2 : d < 2147483648) (kk : Ex X M (pc + 1) loc (.int (nI (a / d)) :: st) h) : Ex X M pc loc (.int (nI d) :: .int (nI a) :: st) h := by
  refine x_idiv C hd (nI_ne h0 hd2) ?_
  rw [pk_div ha h0 hd2]
  exact kk
theorem x_iremN {X : qX} {M : qM} (C : qC X M) {pc : Nat} {loc : List (Nat × Value)} {st : List Value} {h : qH} {a d : Nat} (hd : decode M.2.1 pc = .ok (.irem, 1)) (ha : a < 2147483648) (h0 : 0 < d) (hd2 : d < 2147483648) (kk : Ex X M (pc + 1) loc (.int (nI (a % d)) :: st) h) : Ex X M pc loc (.int (nI d) :: .int (nI a) :: st) h := by
  refine x_irem C hd (nI_ne h0 hd2) ?_
  rw [pk_rem ha h0 hd2]
  exact kk
theorem x_icmp_eqN {X : qX} {M : qM} (C : qC X M) {pc : Nat} {loc : List (Nat × Value)} {st : List Value} {h : qH} {a b : Nat} {off : Int} (tgt : Nat) (hd : decode M.2.1 pc = .ok (.if_icmp .eq off, 3)) (ht : (pc : Int) + off = (tgt : Int)) (ha : a < 2147483648) (hb : b < 2147483648) (kt : a = b → Ex X M tgt loc st h) (kf : ¬ a = b → Ex X M (pc + 3) loc st h) : Ex X M pc loc (.int (nI b) :: .int (nI a) :: st) h := x_icmp_eq C tgt hd ht (fun q => kt ((nI_eq ha hb).mp q)) (fun q => kf (fun z => q ((nI_eq ha hb).mpr z)))
theorem x_icmp_neN {X : qX} {M : qM} (C : qC X M) {pc : Nat} {loc : List (Nat × Value)} {st : List Value} {h : qH} {a b : Nat} {off : Int} (tgt : Nat) (hd : decode M.2.1 pc = .ok (.if_icmp .ne off, 3)) (ht : (pc : Int) + off = (tgt : Int)) (ha : a < 2147483648) (hb : b < 2147483648) (kt : ¬ a = b → Ex X M tgt loc st h) (kf : a = b → Ex X M (pc + 3) loc st h) : Ex X M pc loc (.int (nI b) :: .int (nI a) :: st) h := x_icmp_ne C tgt hd ht (fun q => kt (fun z => q ((nI_eq ha hb).mpr z))) (fun q => kf ((nI_eq ha hb).mp q))
theorem x_icmp_ltN {X : qX} {M : qM} (C : qC X M) {pc : Nat} {loc : List (Nat × Value)} {st : List Value} {h : qH} {a b : Nat} {off : Int} (tgt : Nat) (hd : decode M.2.1 pc = .ok (.if_icmp .lt off, 3)) (ht : (pc : Int) + off = (tgt : Int)) (ha : a < 2147483648) (hb : b < 2147483648) (kt : a < b → Ex X M tgt loc st h) (kf : ¬ a < b → Ex X M (pc + 3) loc st h) : Ex X M pc loc (.int (nI b) :: .int (nI a) :: st) h := x_icmp_lt C tgt hd ht (fun q => kt ((nI_ltI ha hb).mp q)) (fun q => kf (fun z => q ((nI_ltI ha hb).mpr z)))
theorem x_icmp_geN {X : qX} {M : qM} (C : qC X M) {pc : Nat} {loc : List (Nat × Value)} {st : List Value} {h : qH} {a b : Nat} {off : Int} (tgt : Nat) (hd : decode M.2.1 pc = .ok (.if_icmp .ge off, 3)) (ht : (pc : Int) + off = (tgt : Int)) (ha : a < 2147483648) (hb : b < 2147483648) (kt : b ≤ a → Ex X M tgt loc st h) (kf : ¬ b ≤ a → Ex X M (pc + 3) loc st h) : Ex X M pc loc (.int (nI b) :: .int (nI a) :: st) h := x_icmp_ge C tgt hd ht (fun q => kt ((nI_leI hb ha).mp q)) (fun q => kf (fun z => q ((nI_leI hb ha).mpr z)))
theorem x_icmp_gtN {X : qX} {M : qM} (C : qC X M) {pc : Nat} {loc : List (Nat × Value)} {st : List Value} {h : qH} {a b : Nat} {off : Int} (tgt : Nat) (hd : decode M.2.1 pc = .ok (.if_icmp .gt off, 3)) (ht : (pc : Int) + off = (tgt : Int)) (ha : a < 2147483648) (hb : b < 2147483648) (kt : b < a → Ex X M tgt loc st h) (kf : ¬ b < a → Ex X M (pc + 3) loc st h) : Ex X M pc loc (.int (nI b) :: .int (nI a) :: st) h := x_icmp_gt C tgt hd ht (fun q => kt ((nI_ltI hb ha).mp q)) (fun q => kf (fun z => q ((nI_ltI hb ha).mpr z)))
theorem x_icmp_leN {X : qX} {M : qM} (C : qC X M) {pc : Nat} {loc : List (Nat × Value)} {st : List Value} {h : qH} {a b : Nat} {off : Int} (tgt : Nat) (hd : decode M.2.1 pc = .ok (.if_icmp .le off, 3)) (ht : (pc : Int) + off = (tgt : Int)) (ha : a < 2147483648) (hb : b < 2147483648) (kt : a ≤ b → Ex X M tgt loc st h) (kf : ¬ a ≤ b → Ex X M (pc + 3) loc st h) : Ex X M pc loc (.int (nI b) :: .int (nI a) :: st) h := x_icmp_le C tgt hd ht (fun q => kt ((nI_leI ha hb).mp q)) (fun q => kf (fun z => q ((nI_leI ha hb).mpr z)))
theorem x_if_eqN {X : qX} {M : qM} (C : qC X M) {pc : Nat} {loc : List (Nat × Value)} {st : List Value} {h : qH} {a : Nat} {off : Int} (tgt : Nat) (hd : decode M.2.1 pc = .ok (.ifCond .eq off, 3)) (ht : (pc : Int) + off = (tgt : Int)) (ha : a < 2147483648) (kt : a = 0 → Ex X M tgt loc st h) (kf : ¬ a = 0 → Ex X M (pc + 3) loc st h) : Ex X M pc loc (.int (nI a) :: st) h := x_if_eq C tgt hd ht (fun q => kt ((nI_eq ha (by decide : 0 < 2147483648)).mp q)) (fun q => kf (fun z => q ((nI_eq ha (by decide : 0 < 2147483648)).mpr z)))
theorem x_if_neN {X : qX} {M : qM} (C : qC X M) {pc : Nat} {loc : List (Nat × Value)} {st : List Value} {h : qH} {a : Nat} {off : Int} (tgt : Nat) (hd : decode M.2.1 pc = .ok (.ifCond .ne off, 3)) (ht : (pc : Int) + off = (tgt : Int)) (ha : a < 2147483648) (kt : ¬ a = 0 → Ex X M tgt loc st h) (kf : a = 0 → Ex X M (pc + 3) loc st h) : Ex X M pc loc (.int (nI a) :: st) h := x_if_ne C tgt hd ht (fun q => kt (fun z => q ((nI_eq ha (by decide : 0 < 2147483648)).mpr z))) (fun q => kf ((nI_eq ha (by decide : 0 < 2147483648)).mp q))
theorem x_if_ltN {X : qX} {M : qM} (C : qC X M) {pc : Nat} {loc : List (Nat × Value)} {st : List Value} {h : qH} {a : Nat} {off : Int} (tgt : Nat) (hd : decode M.2.1 pc = .ok (.ifCond .lt off, 3)) (ht : (pc : Int) + off = (tgt : Int)) (ha : a < 2147483648) (kf : Ex X M (pc + 3) loc st h) : Ex X M pc loc (.int (nI a) :: st) h := x_if_lt C tgt hd ht (fun q => absurd q (nI_pos ha)) (fun _ => kf)
theorem x_if_geN {X : qX} {M : qM} (C : qC X M) {pc : Nat} {loc : List (Nat × Value)} {st : List Value} {h : qH} {a : Nat} {off : Int} (tgt : Nat) (hd : decode M.2.1 pc = .ok (.ifCond .ge off, 3)) (ht : (pc : Int) + off = (tgt : Int)) (ha : a < 2147483648) (kt : Ex X M tgt loc st h) : Ex X M pc loc (.int (nI a) :: st) h := x_if_ge C tgt hd ht (fun _ => kt) (fun q => absurd (nI_pos' ha) q)
theorem x_if_leN {X : qX} {M : qM} (C : qC X M) {pc : Nat} {loc : List (Nat × Value)} {st : List Value} {h : qH} {a : Nat} {off : Int} (tgt : Nat) (hd : decode M.2.1 pc = .ok (.ifCond .le off, 3)) (ht : (pc : Int) + off = (tgt : Int)) (ha : a < 2147483648) (kt : a = 0 → Ex X M tgt loc st h) (kf : ¬ a = 0 → Ex X M (pc + 3) loc st h) : Ex X M pc loc (.int (nI a) :: st) h := x_if_le C tgt hd ht (fun q => kt (Nat.le_zero.mp ((nI_leI ha (by decide : 0 < 2147483648)).mp q))) (fun q => kf (fun z => q ((nI_leI ha (by decide : 0 < 2147483648)).mpr (Nat.le_zero.mpr z))))
theorem x_if_gtN {X : qX} {M : qM} (C : qC X M) {pc : Nat} {loc : List (Nat × Value)} {st : List Value} {h : qH} {a : Nat} {off : Int} (tgt : Nat) (hd : decode M.2.1 pc = .ok (.ifCond .gt off, 3)) (ht : (pc : Int) + off = (tgt : Int)) (ha : a < 2147483648) (kt : ¬ a = 0 → Ex X M tgt loc st h) (kf : a = 0 → Ex X M (pc + 3) loc st h) : Ex X M pc loc (.int (nI a) :: st) h := x_if_gt C tgt hd ht (fun q => kt (fun z => absurd ((nI_ltI (by decide : 0 < 2147483648) ha).mp q) (by omega))) (fun q => kf (by have := mt (nI_ltI (by decide : 0 < 2147483648) ha).mpr q; omega))
theorem x_if_eqB {X : qX} {M : qM} (C : qC X M) {pc : Nat} {loc : List (Nat × Value)} {st : List Value} {h : qH} {p : Bool} {off : Int} (tgt : Nat) (hd : decode M.2.1 pc = .ok (.ifCond .eq off, 3)) (ht : (pc : Int) + off = (tgt : Int)) (kt : p = false → Ex X M tgt loc st h) (kf : p = true → Ex X M (pc + 3) loc st h) : Ex X M pc loc (.int (qb p) :: st) h := x_if_eq C tgt hd ht (fun q => kt (qb_0.mp q)) (fun q => kf (by cases p; exact absurd (qb_0.mpr rfl) q; rfl))
theorem x_if_neB {X : qX} {M : qM} (C : qC X M) {pc : Nat} {loc : List (Nat × Value)} {st : List Value} {h : qH} {p : Bool} {off : Int} (tgt : Nat) (hd : decode M.2.1 pc = .ok (.ifCond .ne off, 3)) (ht : (pc : Int) + off = (tgt : Int)) (kt : p = true → Ex X M tgt loc st h) (kf : p = false → Ex X M (pc + 3) loc st h) : Ex X M pc loc (.int (qb p) :: st) h := x_if_ne C tgt hd ht (fun q => kt (by cases p; exact absurd (qb_0.mpr rfl) q; rfl)) (fun q => kf (qb_0.mp q))
end NROWS
/-! sets of squares as ints -/
def mk (p : Nat → Bool) : Nat → Nat
  | 0 => 0
  | n + 1 => mk p n + (if p n = true then 2 ^ n else 0)
theorem mk_lt (p : Nat → Bool) : ∀ n, mk p n < 2 ^ n
  | 0 => by simp [mk]
  | n + 1 => by
    have := mk_lt p n
    simp only [mk]
    split <;> (rw [Nat.pow_succ]; omega)
theorem mk_bit (p : Nat → Bool) : ∀ n k, (mk p n).testBit k = (decide (k < n) && p k)
  | 0, k => by simp [mk]
  | n + 1, k => by
    have hl := mk_lt p n
    have ih := mk_bit p n k
    have e : mk p (n + 1) = 2 ^ n * (if p n = true then 1 else 0) + mk p n := by simp only [mk]; split <;> simp [Nat.add_comm]
    rw [e, Nat.testBit_two_pow_mul_add _ hl]
    by_cases h1 : k < n
    · simp [h1, ih, Nat.lt_succ_of_lt h1]
    · by_cases h2 : k = n
      · subst h2
        by_cases h3 : p k = true <;> simp [h3]
      · have h4 : ¬ k < n + 1 := by omega
        simp only [h1, h4, ↓reduceIte, decide_false, Bool.false_and]
        have h5 : k - n ≠ 0 := by omega
        obtain ⟨j, hj⟩ := Nat.exists_eq_succ_of_ne_zero h5
        rw [hj]
        by_cases h3 : p n = true <;> simp [h3, Nat.testBit_succ]
def mask (p : Nat → Bool) : Int32 := nI (mk p 25)
theorem mk25 (p : Nat → Bool) : mk p 25 < 33554432 := mk_lt p 25
theorem mask_bits (p : Nat → Bool) (k : Nat) : (mask p).toBitVec.getLsbD k = (decide (k < 25) && p k) := by
  have h : (mask p).toBitVec = BitVec.ofNat 32 (mk p 25) := rfl
  rw [h, BitVec.getLsbD_ofNat, mk_bit]
  by_cases h1 : k < 25
  · have : k < 32 := by omega
    simp [this]
  · simp [h1]
theorem i32_ext {x y : Int32} (h : ∀ k, k < 32 → x.toBitVec.getLsbD k = y.toBitVec.getLsbD k) : x = y := by
  apply Int32.toBitVec_inj.mp
  apply BitVec.eq_of_getLsbD_eq
  intro i hi
  exact h i hi
theorem mask_or (p q : Nat → Bool) : mask p ||| mask q = mask (fun k => p k || q k) := by
  apply i32_ext
  intro k _
  rw [Int32.toBitVec_or, BitVec.getLsbD_or, mask_bits, mask_bits, mask_bits]
  by_cases h : k < 25 <;> simp [h]
theorem mask_and (p q : Nat → Bool) : mask p &&& mask q = mask (fun k => p k && q k) := by
  apply i32_ext
  intro k _
  rw [Int32.toBitVec_and, BitVec.getLsbD_and, mask_bits, mask_bits, mask_bits]
  by_cases h : k < 25 <;> simp [h]
theorem mask_diff (p q : Nat → Bool) : mask p &&& (mask q ^^^ (-1)) = mask (fun k => p k && !q k) := by
  apply i32_ext
  intro k hk
  have h1 : ((-1 : Int32)).toBitVec.getLsbD k = decide (k < 32) := by
    rw [show ((-1 : Int32)).toBitVec = BitVec.allOnes 32 from rfl, BitVec.getLsbD_allOnes]
  rw [Int32.toBitVec_and, BitVec.getLsbD_and, Int32.toBitVec_xor, BitVec.getLsbD_xor, mask_bits, mask_bits, mask_bits, h1]
  by_cases h : k < 25 <;> simp [h, hk]
theorem mask_bit (p : Nat → Bool) {k : Nat} (hk : k < 25) : (mask p >>> (nI k &&& 31)) &&& nI 1 = qb (p k) := by
  have hs : ((nI k &&& 31).toBitVec.smod 32).toNat = k := by
    have : ∀ k : Fin 25, ((nI k &&& 31).toBitVec.smod 32).toNat = k := by decide +kernel
    exact this ⟨k, hk⟩
  rw [mask, pk_shrN (by have := mk25 p; omega) _ k hs, pk_andN (by have := mk25 p; exact Nat.lt_of_le_of_lt (Nat.div_le_self _ _) (by omega)) 1 rfl, qb_nI]
  congr 1
  have h := mk_bit p 25 k
  simp only [hk, decide_true, Bool.true_and] at h
  rw [Nat.testBit_eq_decide_div_mod_eq] at h
  have h2 : mk p 25 / 2 ^ k % 2 < 2 := Nat.mod_lt _ (by decide)
  by_cases h3 : p k = true
  · rw [h3] at h ⊢
    simpa using h
  · have h4 : p k = false := by simpa using h3
    rw [h4] at h ⊢
    simp at h
    simp
    omega
def one (k : Nat) : Nat → Bool := fun j => decide (j = k)
theorem mask_one {k : Nat} (hk : k < 25) : nI 1 <<< (nI k &&& 31) = mask (one k) := by
  have : ∀ k : Fin 25, nI 1 <<< (nI k &&& 31) = mask (one k) := by decide +kernel
  exact this ⟨k, hk⟩
theorem mask_none : mask (fun _ => false) = nI 0 := by decide +kernel
theorem mask_inj {p q : Nat → Bool} (h : mask p = mask q) : ∀ k, k < 25 → p k = q k := by
  intro k hk
  have h1 := mask_bits p k
  rw [h, mask_bits] at h1
  simpa [hk] using h1.symm
theorem mask_congr {p q : Nat → Bool} (h : ∀ k, k < 25 → p k = q k) : mask p = mask q := by
  apply i32_ext
  intro k _
  rw [mask_bits, mask_bits]
  by_cases hk : k < 25
  · simp [hk, h k hk]
  · simp [hk]
theorem mask_0 {p : Nat → Bool} : mask p = nI 0 ↔ ∀ k, k < 25 → p k = false := by
  rw [← mask_none]
  exact ⟨mask_inj, fun h => mask_congr h⟩
theorem x_sub {X : qX} {M : qM} {pc : Nat} {loc loc2 : List (Nat × Value)} {st : List Value} {h : qH} (ks : List Nat) (kk : Ex X M pc loc2 st h) (hs : lv_pick loc ks = loc2) : Ex X M pc loc st h := by
  subst hs
  refine x_loc _ (fun q hq => ?_) kk
  obtain ⟨k, -, hk⟩ := List.mem_filterMap.mp hq
  exact List.mem_of_getElem? hk
