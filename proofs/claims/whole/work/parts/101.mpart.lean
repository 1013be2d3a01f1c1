/-! A block of a frame: the model. -/
def numF (G : Nat → Nat) (j : Nat) : Nat → Nat → Nat
  | 0, t => t
  | m + 1, t => numF G j m (t * 256 + G (j + m))
theorem numF_0 (G : Nat → Nat) (j t : Nat) : numF G j 0 t = t := rfl
theorem numF_s (G : Nat → Nat) (j m t : Nat) : numF G j (m + 1) t = numF G j m (t * 256 + G (j + m)) := rfl
theorem num_st {t b : Nat} (ht : t < 2 ^ 56) (hb : b < 256) : sl64 (lN t) (8 : Int32) ||| (nI b).toInt64 = lN (t * 256 + b) := by
  apply wN_inj
  rw [wN_or, show (8 : Int32) = nI 8 from rfl, wN_sl (by decide), nI_l (by omega), wN_lN (by omega), wN_lN (by omega), wN_lN (by omega), Nat.mod_eq_of_lt (by omega), Nat.or_comm, or_add (k := 8) (by omega)]
  omega
theorem nat_loop {N kg j : Nat} {wif : Nat → Int32} {G : Nat → Nat} (hG : ∀ i, i < kg → G i < 256 ∧ wif i = nI (G i)) (hk : kg ≤ 8000) : ∀ (m fuel t : Nat), j + m ≤ kg → m < fuel → (t + 1) * 256 ^ m ≤ 2 ^ 64 → loop2 (b_Mo_numberAt_7 (nI j) wif) fuel (lN t) (nI m - 1) = some (lN (numF G j m t)) := by
  intro m
  induction m with
  | zero =>
    intro fuel t h1 h2 h3
    obtain ⟨fuel, rfl⟩ : ∃ z, fuel = z + 1 := ⟨fuel - 1, by omega⟩
    rw [loop2_s, b_Mo_numberAt_7, if_pos (show nI 0 - 1 < 0 from by decide), numF_0]
  | succ m ih =>
    intro fuel t h1 h2 h3
    obtain ⟨fuel, rfl⟩ : ∃ z, fuel = z + 1 := ⟨fuel - 1, by omega⟩
    obtain ⟨hb, hv⟩ := hG (j + m) (by omega)
    have hp : 1 ≤ 256 ^ m := Nat.pow_pos (by decide)
    rw [Nat.pow_succ, Nat.mul_comm (256 ^ m) 256, ← Nat.mul_assoc] at h3
    have ht : (t + 1) * 256 ≤ 2 ^ 64 := Nat.le_trans (Nat.le_mul_of_pos_right _ hp) h3
    rw [loop2_s, b_Mo_numberAt_7, nI_pred, if_neg (nI_pos (by omega)), nI_add, as_of (vp_in_nI (by omega) (by decide)), nI_clamp (by omega), hv, num_st (by omega) hb, numF_s, show nI m + (-1 : Int32) = nI m - 1 from (Int32.sub_eq_add_neg _ _).symm]
    have h4 : (t * 256 + G (j + m) + 1) * 256 ^ m ≤ (t + 1) * 256 * 256 ^ m := Nat.mul_le_mul_right _ (by omega)
    exact ih fuel (t * 256 + G (j + m)) (by omega) (by omega) (Nat.le_trans h4 h3)
theorem m_num4at {N kg j : Nat} {win : Int32} {wif : Nat → Int32} {G : Nat → Nat} (hN : 20010 < N) (hG : Mw kg win wif G) (hj : j + 4 ≤ kg) : f_Mo_numberAt N (nI j) 4 wif = some (lN (W4 G j)) := by
  have e := nat_loop (N := N) (j := j) hG.2.2 hG.2.1 4 N 0 hj (by omega) (by decide)
  have ew : numF G j 4 0 = W4 G j := by
    rw [numF_s, numF_s, numF_s, numF_s, numF_0]
    unfold W4
    simp only [Nat.add_zero]
    omega
  rw [ew] at e
  exact e
theorem m_num8at {N kg j : Nat} {win : Int32} {wif : Nat → Int32} {G : Nat → Nat} (hN : 20010 < N) (hG : Mw kg win wif G) (hj : j + 8 ≤ kg) : f_Mo_numberAt N (nI j) 8 wif = some (lN (W4 G j + 4294967296 * W4 G (j + 4))) := by
  have e := nat_loop (N := N) (j := j) hG.2.2 hG.2.1 8 N 0 hj (by omega) (by decide)
  have ew : numF G j 8 0 = W4 G j + 4294967296 * W4 G (j + 4) := by
    rw [numF_s, numF_s, numF_s, numF_s, numF_s, numF_s, numF_s, numF_s, numF_0]
    unfold W4
    simp only [Nat.add_zero, show j + 4 + 1 = j + 5 from rfl, show j + 4 + 2 = j + 6 from rfl, show j + 4 + 3 = j + 7 from rfl]
    omega
  rw [ew] at e
  exact e
theorem ap_loop {ρ : Type} (b : (Int32 → Int32 → (Nat → Int32) → Option ρ) → Int32 → Int32 → (Nat → Int32) → Option ρ) (g : Nat → Int32) (e : Nat) {lim : Nat} (hstep : ∀ kq F i n, i < e → n < lim → b kq (nI i) (nI n) F = kq (nI (i + 1)) (nI (n + 1)) (upd F n (g i))) : ∀ (m fuel i n : Nat) (F : Nat → Int32), i + m = e → n + m ≤ lim → m < fuel → ∃ fuel' F', loop3 b fuel (nI i) (nI n) F = b (loop3 b fuel') (nI e) (nI (n + m)) F' ∧ (∀ j, j < n → F' j = F j) ∧ ∀ t, t < m → F' (n + t) = g (i + t) := by
  intro m
  induction m with
  | zero =>
    intro fuel i n F h1 h2 h3
    obtain ⟨fuel, rfl⟩ : ∃ z, fuel = z + 1 := ⟨fuel - 1, by omega⟩
    refine ⟨fuel, F, ?_, fun _ _ => rfl, fun t ht => absurd ht (Nat.not_lt_zero t)⟩
    rw [loop3_s, show i = e from by omega]
    rfl
  | succ m ih =>
    intro fuel i n F h1 h2 h3
    obtain ⟨fuel, rfl⟩ : ∃ z, fuel = z + 1 := ⟨fuel - 1, by omega⟩
    obtain ⟨fuel', F', e1, q1, q2⟩ := ih fuel (i + 1) (n + 1) (upd F n (g i)) (by omega) (by omega) (by omega)
    refine ⟨fuel', F', ?_, fun j hj => ?_, fun t ht => ?_⟩
    · rw [loop3_s, hstep _ _ _ _ (by omega) (by omega), e1, show n + 1 + m = n + (m + 1) from by omega]
    · rw [q1 j (by omega)]
      unfold upd
      rw [if_neg (by omega)]
    · by_cases c : t = 0
      · rw [c, Nat.add_zero, Nat.add_zero, q1 n (by omega)]
        unfold upd
        rw [if_pos rfl]
      · have := q2 (t - 1) (by omega)
        rw [show n + 1 + (t - 1) = n + t from by omega, show i + 1 + (t - 1) = i + t from by omega] at this
        exact this
theorem m_ffault (a b : Int32) : f_Mo_fault a b = some (a, b) := rfl
theorem m_319 {N kg kh most s0 a m c b j : Nat} {G H C : Nat → Nat} {win wpl wnu : Int32} {wif wbf wcf : Nat → Int32} {wlf : Nat → Int64} (hN : 20010 < N) (hm : most ≤ 8000) (hG : Mw kg win wif G) (hkh : kh ≤ 8000) (hC : Ma 8000 c wcf C) (hs : s0 ≤ c) (hc : c ≤ most) (he : a + m ≤ kg) (hb : a + m ≤ b) (hbk : b ≤ kg) (hj : j ≤ a) (hB : Ma 16000 (kh + (c - s0)) wbf (virt H kh C s0)) : ∃ wpl' wbn' wcn' wat' wnu' wbf' wcf' wlf', j_Mo_readPart_319 N (nI a) (nI (a + m)) (nI b) (nI (most - c)) wpl (nI (kh + (c - s0))) (nI c) wnu wif wbf wcf wlf = some (nI (frR (bkR G H kh most s0 m a c C) kh s0 c b C).1, wpl', wbn', wcn', wat', wnu', wbf', wcf', wlf') ∧ Fm kg most j c (frR (bkR G H kh most s0 m a c C) kh s0 c b C) wpl' wcn' wat' wcf' := by
  obtain ⟨wat', wnu', f2, e2, h2, h3, h4⟩ := m_readBlock (N := N) (a := a) (most := most - c) (wpl := wpl) (wnu := wnu) (v := 0) hN hG (e := a + m) (by omega) he (by omega) (by omega) hB
  rw [show kh + (c - s0) + (most - c) = kh + most - s0 from by omega] at e2 h2 h3 h4
  have hf : (bkR G H kh most s0 m a c C).1 ≤ 3 := rd_fault _ _ _ _ _ _ _
  have e2 : f_Mo_readBlock N (nI a) (nI (a + m)) (nI (most - c)) wpl (nI (kh + (c - s0))) wnu wif wbf = some (nI (bkR G H kh most s0 m a c C).1, nI (bkR G H kh most s0 m a c C).2.1, nI (bkR G H kh most s0 m a c C).2.2.1, wat', wnu', f2) := e2
  have h2 : Ma 16000 (bkR G H kh most s0 m a c C).2.2.1 f2 (bkR G H kh most s0 m a c C).2.2.2 := h2
  have h3 : kh + (c - s0) ≤ (bkR G H kh most s0 m a c C).2.2.1 := h3
  have h4 : (bkR G H kh most s0 m a c C).2.2.1 ≤ kh + most - s0 := h4
  generalize bkR G H kh most s0 m a c C = R at *
  rw [j_Mo_readPart_319, bd6_of e2]
  by_cases c0 : R.1 = 0
  · have e9 : (frR R kh s0 c b C).1 = 0 := by show (if R.1 = 1 then 9 else R.1) = 0; rw [if_neg (by omega), c0]
    obtain ⟨fu, F', e3, q1, q2⟩ := ap_loop (b_Mo_readPart_360 (nI b) (nI R.2.1) (nI R.2.2.1) wnu' f2 wlf) f2 R.2.2.1 (lim := 8000) (fun kq F i n hi hn => by
      rw [b_Mo_readPart_360, if_neg (nI_ge hi (by omega)), as_of (vp_in_nI (by omega) (by decide)), as_of (vp_in_nI hn (by decide)), nI_clamp (by omega), nI_clamp (by omega), nI_1, show nI n + (1 : Int32) = nI (n + 1) from nI_1 n]) (R.2.2.1 - (kh + (c - s0))) N (kh + (c - s0)) c wcf (by omega) (by omega) (by omega)
    rw [if_pos (show nI R.1 ≤ 0 from by rw [c0]; decide), e3, b_Mo_readPart_360, if_pos (nI_le (Nat.le_refl _) (by omega)), e9]
    refine ⟨_, _, _, _, _, _, _, _, rfl, by rw [e9]; exact Nat.zero_le _, fun z => absurd e9 z, fun _ => ⟨rfl, rfl, ?_, by show j ≤ b; omega, hbk, by show c ≤ c + _; omega, by show c + (R.2.2.1 - (kh + (c - s0))) ≤ most; omega⟩⟩
    refine ⟨by show c + (R.2.2.1 - (kh + (c - s0))) ≤ 8000; omega, by decide, fun i hi => ?_⟩
    have hi : i < c + (R.2.2.1 - (kh + (c - s0))) := hi
    show (if i < c then C i else R.2.2.2 (kh + (i - s0))) < 256 ∧ F' i = nI (if i < c then C i else R.2.2.2 (kh + (i - s0)))
    by_cases ci : i < c
    · rw [if_pos ci, q1 i ci]
      exact hC.2.2 i ci
    · have := q2 (i - c) (by omega)
      rw [show c + (i - c) = i from by omega, show kh + (c - s0) + (i - c) = kh + (i - s0) from by omega] at this
      rw [if_neg ci, this]
      exact h2.2.2 _ (by omega)
  · rw [if_neg (show ¬ nI R.1 ≤ 0 from nI_nle (by omega) (by omega))]
    by_cases c1 : R.1 = 1
    · have e9 : (frR R kh s0 c b C).1 = 9 := if_pos c1
      rw [if_pos (show nI R.1 = 1 from by rw [c1]; rfl), e9]
      exact ⟨_, _, _, _, _, _, _, _, rfl, by rw [e9]; decide, fun _ => rfl, fun e => by rw [e9] at e; omega⟩
    · have e9 : (frR R kh s0 c b C).1 = R.1 := if_neg c1
      rw [if_neg (show ¬ nI R.1 = 1 from fun z => c1 ((nI_eq (a := R.1) (b := 1) (by omega) (by decide)).mp z)), e9]
      exact ⟨_, _, _, _, _, _, _, _, rfl, by rw [e9]; omega, fun _ => rfl, fun e => by rw [e9] at e; omega⟩
theorem m_178 {N kg kh most st w m a sb c j : Nat} {G H C : Nat → Nat} {fl win whn wpl wbn wnu x7 : Int32} {wif whf wbf wcf : Nat → Int32} {wlf : Nat → Int64} (hN : 20010 < N) (hm : most ≤ 8000) (hG : Mw kg win wif G) (hH : Mw kh whn whf H) (hC : Ma 8000 c wcf C) (hs : st ≤ c) (hc : c ≤ most) (he : a + m + sb ≤ kg) (hj : j ≤ a) (hx : x7 = if 2147483648 ≤ w then 1 else 0) : ∃ wpl' wbn' wcn' wat' wnu' wbf' wcf' wlf', j_Mo_readPart_178 N fl (nI st) (nI most) x7 (lN m) (nI a) (nI (a + m)) whn wpl wbn (nI c) (nI (a + m + sb)) wnu wif whf wbf wcf wlf = some (nI (prt2 G H kh most fl st w m a (a + m + sb) c C).1, wpl', wbn', wcn', wat', wnu', wbf', wcf', wlf') ∧ Fm kg most j c (prt2 G H kh most fl st w m a (a + m + sb) c C) wpl' wcn' wat' wcf' := by
  have hk := hG.2.1
  have hkh := hH.2.1
  rw [j_Mo_readPart_178, prt2, hx, pk_sub hc]
  by_cases cw : 2147483648 ≤ w
  · rw [if_pos cw, if_neg n10, if_pos cw, nI_l (by omega)]
    by_cases cm : most - c < m
    · rw [if_neg (by rw [lg_cmp_le, pk_lLE (by omega) (by omega)]; omega), if_pos cm, bd2_of (m_ffault _ _), nI_add]
      exact ⟨_, _, _, _, _, _, _, _, rfl, Fm.no (by decide) (by decide) rfl⟩
    · obtain ⟨fu, F', e3, q1, q2⟩ := ap_loop (b_Mo_readPart_222 (nI (a + m)) wpl wbn (nI (a + m + sb)) wnu wif wbf wlf) wif (a + m) (lim := 8000) (fun kq F i n hi hn => by
        rw [b_Mo_readPart_222, if_neg (nI_ge hi (by omega)), as_of (vp_in_nI (by omega) (by decide)), as_of (vp_in_nI hn (by decide)), nI_clamp (by omega), nI_clamp (by omega), nI_1, show nI n + (1 : Int32) = nI (n + 1) from nI_1 n]) m N a c wcf rfl (by omega) (by omega)
      rw [if_pos (by rw [lg_cmp_le, pk_lLE (by omega) (by omega)]; omega), if_neg cm, e3, b_Mo_readPart_222, if_pos (nI_le (Nat.le_refl _) (by omega))]
      refine ⟨_, _, _, _, _, _, _, _, rfl, Fm.yes rfl rfl ⟨by omega, by decide, fun i hi => ?_⟩ (by omega) he (by omega) (by omega)⟩
      unfold catB
      by_cases ci : i < c
      · rw [if_pos ci, q1 i ci]
        exact hC.2.2 i ci
      · have := q2 (i - c) (by omega)
        rw [show c + (i - c) = i from by omega] at this
        rw [if_neg ci, this]
        exact hG.2.2 _ (by omega)
  · rw [if_neg cw, if_pos z00, if_neg cw]
    obtain ⟨f1, e1, h1⟩ := m_beginBack (N := N) (by omega) hH wbf
    rw [bd2_of e1]
    by_cases cf : fl &&& (32 : Int32) = 0
    · rw [if_pos cf]
      obtain ⟨fu, F', e3, q1, q2⟩ := ap_loop (b_Mo_readPart_271 N fl (nI a) (nI (a + m)) (nI (a + m + sb)) (nI (most - c)) wpl (nI c) wnu wif wcf wlf) wcf c (lim := 16000) (fun kq F i n hi hn => by
        rw [b_Mo_readPart_271, if_neg (nI_ge hi (by omega)), if_pos cf, as_of (vp_in_nI (by omega) (by decide)), as_of (vp_in_nI hn (by decide)), nI_clamp (by omega), nI_clamp (by omega), nI_1, show nI n + (1 : Int32) = nI (n + 1) from nI_1 n]) (c - st) N st kh f1 (by omega) (by omega) (by omega)
      rw [e3, b_Mo_readPart_271, if_pos (nI_le (Nat.le_refl _) (by omega))]
      refine m_319 hN hm hG hkh hC hs hc (by omega) (by omega) he hj ⟨by omega, by decide, fun i hi => ?_⟩
      unfold virt
      by_cases ci : i < kh
      · rw [if_pos ci, q1 i ci]
        exact h1.2.2 i ci
      · have := q2 (i - kh) (by omega)
        rw [show kh + (i - kh) = i from by omega] at this
        rw [if_neg ci, this]
        exact hC.2.2 _ (by omega)
    · obtain ⟨N', rfl⟩ : ∃ z, N = z + 1 := ⟨N - 1, by omega⟩
      have h1' : Ma 16000 (kh + (c - c)) f1 (virt H kh C c) := by
        rw [Nat.sub_self, Nat.add_zero]
        refine ⟨by omega, by decide, fun i hi => ?_⟩
        unfold virt
        rw [if_pos hi]
        exact h1.2.2 i hi
      rw [if_neg cf, loop3_s, b_Mo_readPart_271]
      obtain ⟨wpl', wbn', wcn', wat', wnu', wbf', wcf', wlf', e, g⟩ := m_319 (N := N' + 1) (wpl := wpl) (wnu := wnu) (wlf := wlf) hN hm hG hkh hC (Nat.le_refl c) hc (a := a) (m := m) (b := a + m + sb) (by omega) (by omega) he hj h1'
      rw [Nat.sub_self, Nat.add_zero] at e
      by_cases cs : c ≤ st
      · rw [if_pos (nI_le cs (by omega))]
        exact ⟨_, _, _, _, _, _, _, _, e, g⟩
      · rw [if_neg (nI_ge (by omega) (by omega)), if_neg cf]
        exact ⟨_, _, _, _, _, _, _, _, e, g⟩
theorem m_has {a b kg : Nat} (hb : b + a < 2 ^ 31) (hk : kg < 2 ^ 31) : f_Mo_has (nI a) (nI kg) (nI b) = some (if kg < b + a then 0 else 1) := by
  unfold f_Mo_has
  rw [j_Mo_has_0, nI_add]
  by_cases c : kg < b + a
  · rw [if_pos (nI_lt c hb), if_pos c]
  · rw [if_neg (nI_nlt (by omega) hk), if_neg c]
theorem uL_inj {x y : Int32} : uL x = uL y ↔ x = y := by
  constructor
  · intro h
    apply vN_inj
    rw [← wN_uL, ← wN_uL, h]
  · intro h
    rw [h]
theorem m_prt {N kg kh most gr st w j c : Nat} {G H C : Nat → Nat} {fl win whn wpl wbn wnu : Int32} {wif whf wbf wcf : Nat → Int32} {wlf : Nat → Int64} (hN : 20010 < N) (hm : most ≤ 8000) (hG : Mw kg win wif G) (hH : Mw kh whn whf H) (hC : Ma 8000 c wcf C) (hs : st ≤ c) (hc : c ≤ most) (hw : w < 4294967296) (hgr : gr < 8388608) (hj : j + 4 ≤ kg) : ∃ wpl' wbn' wcn' wat' wnu' wbf' wcf' wlf', f_Mo_readPart N (lN w) fl (nI gr) (nI st) (nI most) win whn wpl wbn (nI c) (nI j) wnu wif whf wbf wcf wlf = some (nI (prt G H kg kh most fl gr st w j c C).1, wpl', wbn', wcn', wat', wnu', wbf', wcf', wlf') ∧ Fm kg most (j + 4) c (prt G H kg kh most fl gr st w j c C) wpl' wcn' wat' wcf' := by
  have hk := hG.2.1
  have hwn := hG.1
  subst hwn
  have hmm : w % 2147483648 < 2147483648 := Nat.mod_lt _ (by decide)
  have e29 : ∀ x7 : Int32, x7 = (if 2147483648 ≤ w then 1 else 0) → ∃ wpl' wbn' wcn' wat' wnu' wbf' wcf' wlf', j_Mo_readPart_29 N fl (nI gr) (nI st) (nI most) x7 (lN (w % 2147483648)) (nI kg) whn wpl wbn (nI c) (nI j) wnu wif whf wbf wcf wlf = some (nI (prt G H kg kh most fl gr st w j c C).1, wpl', wbn', wcn', wat', wnu', wbf', wcf', wlf') ∧ Fm kg most (j + 4) c (prt G H kg kh most fl gr st w j c C) wpl' wcn' wat' wcf' := by
    intro x7 hx
    rw [j_Mo_readPart_29, prt, nI_l (by omega)]
    generalize w % 2147483648 = m at *
    by_cases c1 : gr < m
    · rw [if_neg (by rw [lg_cmp_le, pk_lLE (by omega) (by omega)]; omega), if_pos c1, bd2_of (m_ffault _ _)]
      exact ⟨_, _, _, _, _, _, _, _, rfl, Fm.no (by decide) (by decide) rfl⟩
    rw [if_pos (by rw [lg_cmp_le, pk_lLE (by omega) (by omega)]; omega), if_neg c1, show nI j + (4 : Int32) = nI (j + 4) from nI_add j 4, pk_sub hj, nI_l (by omega), lN_i, nI_add, prt1]
    by_cases c2 : kg < j + 4 + m
    · rw [if_neg (by rw [lg_cmp_le, pk_lLE (by omega) (by omega)]; omega), if_pos (by omega), bd2_of (m_ffault _ _)]
      exact ⟨_, _, _, _, _, _, _, _, rfl, Fm.no (by decide) (by decide) rfl⟩
    rw [if_pos (by rw [lg_cmp_le, pk_lLE (by omega) (by omega)]; omega)]
    by_cases c3 : fl &&& (16 : Int32) = 0
    · have es : sbN fl = 0 := if_pos c3
      rw [if_pos c3, es, if_neg (by omega), if_neg (fun z => z.1 c3)]
      exact m_178 (sb := 0) hN hm hG hH hC hs hc (by omega) (Nat.le_refl _) hx
    · have es : sbN fl = 4 := if_neg c3
      rw [if_neg c3, es, show (4 : Int32) = nI 4 from rfl, bd1_of (m_has (by omega) (by omega))]
      by_cases c4 : kg < j + 4 + m + 4
      · rw [if_pos c4, if_pos z00, if_pos c4, bd2_of (m_ffault _ _)]
        exact ⟨_, _, _, _, _, _, _, _, rfl, Fm.no (by decide) (by decide) rfl⟩
      · have e4 := m_num4at (N := N) hN hG (j := j + 4 + m) (by omega)
        have hw4 := W4_ltM hG (j := j + 4 + m) (by omega)
        obtain ⟨wl2, e5⟩ := m_sum (N := N) (aL := 8000) (a := j + 4) (e := j + 4 + m) (af := wif) (B := G) (by omega) ⟨by omega, by decide, fun i hi => hG.2.2 i (by omega)⟩ (by omega) wlf
        rw [show j + 4 + m - (j + 4) = m from by omega] at e5
        have e4 : f_Mo_numberAt N (nI (j + 4 + m)) (nI 4) wif = some (lN (W4 G (j + 4 + m))) := e4
        rw [if_neg c4, if_neg n10, if_neg c4, bd1_of e4, bd2_of e5, nI_add]
        by_cases c5 : nI (W4 G (j + 4 + m)) = sumS G (j + 4) m
        · rw [if_pos (by rw [lg_cmp_eq, ← uL_nI hw4, uL_inj]; exact c5), if_neg (fun z => z.2 c5)]
          exact m_178 (sb := 4) hN hm hG hH hC hs hc (by omega) (Nat.le_refl _) hx
        · rw [if_neg (by rw [lg_cmp_eq, ← uL_nI hw4, uL_inj]; exact c5), if_pos ⟨c3, c5⟩, bd2_of (m_ffault _ _)]
          exact ⟨_, _, _, _, _, _, _, _, rfl, Fm.no (by decide) (by decide) rfl⟩
  unfold f_Mo_readPart
  rw [j_Mo_readPart_0, show (2147483648 : Int64) = lN 2147483648 from rfl]
  by_cases cw : 2147483648 ≤ w
  · rw [if_neg (by rw [lg_cmp_lt, pk_lLT (by omega) (by omega)]; omega), j_Mo_readPart_13, if_neg n10, show (2147483648 : Int64) = lN 2147483648 from rfl, lN_sub cw]
    have := e29 1 (if_pos cw).symm
    rw [show w % 2147483648 = w - 2147483648 from by omega] at this
    exact this
  · rw [if_pos (by rw [lg_cmp_lt, pk_lLT (by omega) (by omega)]; omega), j_Mo_readPart_13, if_pos z00]
    have := e29 0 (if_neg cw).symm
    rw [show w % 2147483648 = w from by omega] at this
    exact this
