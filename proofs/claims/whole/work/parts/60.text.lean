/-! the reference: characters -/
theorem vnar_c {v : Nat} (hv : v < 128) : vp_nar .char (nI v) = nI v := (by decide +kernel : ∀ v : Fin 128, vp_nar .char (nI v.1) = nI v.1) ⟨v, hv⟩
theorem i2c_c {v : Nat} (hv : v < 128) : ((nI v).toUInt32 % 65536).toInt32 = nI v := (by decide +kernel : ∀ v : Fin 128, ((nI v.1).toUInt32 % 65536).toInt32 = nI v.1) ⟨v, hv⟩
theorem x_castB {X : qX} {M : qM} (C : qC X M) {pc : Nat} {loc : List (Nat × Value)} {st : List Value} {h : qH} {a n i v : Nat} {f : Nat → Nat} (hd : decode M.2.1 pc = .ok (.castore, 1)) (ho : h[a]? = some (.inl (1, n, .inl (nb f)))) (hi : i < n) (hn : n < 2147483648) (hv : v < 128) (kk : Ex X M (pc + 1) loc st (h.set a (.inl (1, n, .inl (nb (up f i v)))))) : Ex X M pc loc (.int (nI v) :: .int (nI i) :: .ref a :: st) h := by
  obtain ⟨p, l, e, s, m, args, below, meth, c, ad, cy, D, A, cells, slots, len, Q⟩ := X
  obtain ⟨hx, hb, hml, hown, hts, hA, hG, hce, hso⟩ := C
  intro H locs ls hlen hP hD hS hl
  refine va_cast hx hb hG.1 hP hD hS a 1 (q_w_get ho) rfl (vp_in_nI hi hn) hd (fun H1 locs1 hP1 hD1 hS1 => ?_)
  rw [vnar_c hv, nI_clamp (by omega), up_nb] at hP1 hD1
  have e : (ad a, (Sum.inl (cy 1, n, Sum.inl (nb (up f i v))) : va_E)) = (ad a, q_e ad cy (.inl (1, n, .inl (nb (up f i v))))) := rfl
  rw [e, q_w_set] at hP1 hD1
  exact kk H1 locs1 ls (by rw [List.length_set]; exact hlen) hP1 hD1 hS1 hl
theorem x_caldN {X : qX} {M : qM} (C : qC X M) {pc : Nat} {loc : List (Nat × Value)} {st : List Value} {h : qH} {a n i : Nat} {f : Nat → Nat} (hd : decode M.2.1 pc = .ok (.caload, 1)) (ho : h[a]? = some (.inl (1, n, .inl (nb f)))) (hi : i < n) (hn : n < 2147483648) (kk : Ex X M (pc + 1) loc (.int (nI (f i)) :: st) h) : Ex X M pc loc (.int (nI i) :: .ref a :: st) h := by
  refine x_caload C hd ho (vp_in_nI hi hn) ?_
  rw [nI_clamp (by omega)]
  exact kk
